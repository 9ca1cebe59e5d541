section
-- ===== PART A: goes FIRST, ahead of the names: the tables' words, and 'selects' of the private methods out of them =====
/-- a private method of a class that the tables say can be made, by its rows of tables_1 -/
def lw_okq (q : MethodName × Nat) : Prop := (q.1.cls ≠ "java/lang/invoke/MethodHandle" ∧ q.1.cls ≠ "java/lang/invoke/VarHandle") ∧ Cond.instantiable q.1.cls q.2 ∈ tables_1 ∧ Cond.privateMethod q.1 ∈ tables_1 ∧ Cond.instanceMethod q.1 ∈ tables_1
theorem lw_p0 : lw_okq (⟨"RookHusting$Reader", "readHead", "()V"⟩, 4) := ⟨⟨by decide +kernel, by decide +kernel⟩, List.mem_of_getElem? (i := 60) (by decide +kernel), List.mem_of_getElem? (i := 482) (by decide +kernel), List.mem_of_getElem? (i := 483) (by decide +kernel)⟩
theorem lw_p1 : lw_okq (⟨"RookHusting$Reader", "takeWord", "(Ljava/lang/String;)V"⟩, 4) := ⟨⟨by decide +kernel, by decide +kernel⟩, List.mem_of_getElem? (i := 60) (by decide +kernel), List.mem_of_getElem? (i := 487) (by decide +kernel), List.mem_of_getElem? (i := 488) (by decide +kernel)⟩
theorem lw_p2 : lw_okq (⟨"RookHusting$Reader", "blame", "(I)V"⟩, 4) := ⟨⟨by decide +kernel, by decide +kernel⟩, List.mem_of_getElem? (i := 60) (by decide +kernel), List.mem_of_getElem? (i := 543) (by decide +kernel), List.mem_of_getElem? (i := 544) (by decide +kernel)⟩
theorem lw_p3 : lw_okq (⟨"RookHusting$Reader", "takeNamed", "(Ljava/lang/String;II)I"⟩, 4) := ⟨⟨by decide +kernel, by decide +kernel⟩, List.mem_of_getElem? (i := 60) (by decide +kernel), List.mem_of_getElem? (i := 549) (by decide +kernel), List.mem_of_getElem? (i := 550) (by decide +kernel)⟩
theorem lw_p4 : lw_okq (⟨"RookHusting$Reader", "takeNumber", "(III)I"⟩, 4) := ⟨⟨by decide +kernel, by decide +kernel⟩, List.mem_of_getElem? (i := 60) (by decide +kernel), List.mem_of_getElem? (i := 553) (by decide +kernel), List.mem_of_getElem? (i := 554) (by decide +kernel)⟩
theorem lw_p5 : lw_okq (⟨"RookHusting$Reader", "readField", "()V"⟩, 4) := ⟨⟨by decide +kernel, by decide +kernel⟩, List.mem_of_getElem? (i := 60) (by decide +kernel), List.mem_of_getElem? (i := 563) (by decide +kernel), List.mem_of_getElem? (i := 564) (by decide +kernel)⟩
theorem lw_p6 : lw_okq (⟨"RookHusting$Reader", "readHedge", "()V"⟩, 4) := ⟨⟨by decide +kernel, by decide +kernel⟩, List.mem_of_getElem? (i := 60) (by decide +kernel), List.mem_of_getElem? (i := 574) (by decide +kernel), List.mem_of_getElem? (i := 575) (by decide +kernel)⟩
theorem lw_p7 : lw_okq (⟨"RookHusting$Reader", "readMan", "()V"⟩, 4) := ⟨⟨by decide +kernel, by decide +kernel⟩, List.mem_of_getElem? (i := 60) (by decide +kernel), List.mem_of_getElem? (i := 583) (by decide +kernel), List.mem_of_getElem? (i := 584) (by decide +kernel)⟩
theorem lw_p8 : lw_okq (⟨"RookHusting$Reader", "readVoter", "()V"⟩, 4) := ⟨⟨by decide +kernel, by decide +kernel⟩, List.mem_of_getElem? (i := 60) (by decide +kernel), List.mem_of_getElem? (i := 594) (by decide +kernel), List.mem_of_getElem? (i := 595) (by decide +kernel)⟩
theorem lw_p9 : lw_okq (⟨"RookHusting$Reader", "takeSign", "()V"⟩, 4) := ⟨⟨by decide +kernel, by decide +kernel⟩, List.mem_of_getElem? (i := 60) (by decide +kernel), List.mem_of_getElem? (i := 607) (by decide +kernel), List.mem_of_getElem? (i := 608) (by decide +kernel)⟩
theorem lw_p10 : lw_okq (⟨"RookHusting", "forget", "()V"⟩, 16) := ⟨⟨by decide +kernel, by decide +kernel⟩, List.mem_of_getElem? (i := 22) (by decide +kernel), List.mem_of_getElem? (i := 618) (by decide +kernel), List.mem_of_getElem? (i := 619) (by decide +kernel)⟩
theorem lw_p11 : lw_okq (⟨"RookHusting", "isField", "(I)Z"⟩, 16) := ⟨⟨by decide +kernel, by decide +kernel⟩, List.mem_of_getElem? (i := 22) (by decide +kernel), List.mem_of_getElem? (i := 630) (by decide +kernel), List.mem_of_getElem? (i := 631) (by decide +kernel)⟩
theorem lw_p12 : lw_okq (⟨"RookHusting", "isMan", "(I)Z"⟩, 16) := ⟨⟨by decide +kernel, by decide +kernel⟩, List.mem_of_getElem? (i := 22) (by decide +kernel), List.mem_of_getElem? (i := 645) (by decide +kernel), List.mem_of_getElem? (i := 646) (by decide +kernel)⟩
theorem lw_p13 : lw_okq (⟨"RookHusting", "isVoter", "(I)Z"⟩, 16) := ⟨⟨by decide +kernel, by decide +kernel⟩, List.mem_of_getElem? (i := 22) (by decide +kernel), List.mem_of_getElem? (i := 653) (by decide +kernel), List.mem_of_getElem? (i := 654) (by decide +kernel)⟩
theorem lw_p14 : lw_okq (⟨"RookHusting", "isSet", "(I)Z"⟩, 16) := ⟨⟨by decide +kernel, by decide +kernel⟩, List.mem_of_getElem? (i := 22) (by decide +kernel), List.mem_of_getElem? (i := 665) (by decide +kernel), List.mem_of_getElem? (i := 666) (by decide +kernel)⟩
theorem lw_p15 : lw_okq (⟨"RookHusting", "isTold", "()Z"⟩, 16) := ⟨⟨by decide +kernel, by decide +kernel⟩, List.mem_of_getElem? (i := 22) (by decide +kernel), List.mem_of_getElem? (i := 669) (by decide +kernel), List.mem_of_getElem? (i := 670) (by decide +kernel)⟩
def lw_privs_1 : List (MethodName × Nat) := [(⟨"RookHusting$Reader", "readHead", "()V"⟩, 4), (⟨"RookHusting$Reader", "takeWord", "(Ljava/lang/String;)V"⟩, 4), (⟨"RookHusting$Reader", "blame", "(I)V"⟩, 4), (⟨"RookHusting$Reader", "takeNamed", "(Ljava/lang/String;II)I"⟩, 4), (⟨"RookHusting$Reader", "takeNumber", "(III)I"⟩, 4), (⟨"RookHusting$Reader", "readField", "()V"⟩, 4), (⟨"RookHusting$Reader", "readHedge", "()V"⟩, 4), (⟨"RookHusting$Reader", "readMan", "()V"⟩, 4), (⟨"RookHusting$Reader", "readVoter", "()V"⟩, 4), (⟨"RookHusting$Reader", "takeSign", "()V"⟩, 4), (⟨"RookHusting", "forget", "()V"⟩, 16), (⟨"RookHusting", "isField", "(I)Z"⟩, 16), (⟨"RookHusting", "isMan", "(I)Z"⟩, 16), (⟨"RookHusting", "isVoter", "(I)Z"⟩, 16), (⟨"RookHusting", "isSet", "(I)Z"⟩, 16), (⟨"RookHusting", "isTold", "()Z"⟩, 16)]
theorem lw_r1 : ∀ q ∈ lw_privs_1, lw_okq q := List.forall_mem_cons.mpr ⟨lw_p0, List.forall_mem_cons.mpr ⟨lw_p1, List.forall_mem_cons.mpr ⟨lw_p2, List.forall_mem_cons.mpr ⟨lw_p3, List.forall_mem_cons.mpr ⟨lw_p4, List.forall_mem_cons.mpr ⟨lw_p5, List.forall_mem_cons.mpr ⟨lw_p6, List.forall_mem_cons.mpr ⟨lw_p7, List.forall_mem_cons.mpr ⟨lw_p8, List.forall_mem_cons.mpr ⟨lw_p9, List.forall_mem_cons.mpr ⟨lw_p10, List.forall_mem_cons.mpr ⟨lw_p11, List.forall_mem_cons.mpr ⟨lw_p12, List.forall_mem_cons.mpr ⟨lw_p13, List.forall_mem_cons.mpr ⟨lw_p14, List.forall_mem_cons.mpr ⟨lw_p15, fun _ h => absurd h List.not_mem_nil⟩⟩⟩⟩⟩⟩⟩⟩⟩⟩⟩⟩⟩⟩⟩⟩
theorem lw_p16 : lw_okq (⟨"RookHusting$Election", "lastOfFewest", "([III)I"⟩, 2) := ⟨⟨by decide +kernel, by decide +kernel⟩, List.mem_of_getElem? (i := 239) (by decide +kernel), List.mem_of_getElem? (i := 695) (by decide +kernel), List.mem_of_getElem? (i := 696) (by decide +kernel)⟩
theorem lw_p17 : lw_okq (⟨"RookHusting$Election", "firstOfMost", "([IIII)I"⟩, 2) := ⟨⟨by decide +kernel, by decide +kernel⟩, List.mem_of_getElem? (i := 239) (by decide +kernel), List.mem_of_getElem? (i := 702) (by decide +kernel), List.mem_of_getElem? (i := 703) (by decide +kernel)⟩
theorem lw_p18 : lw_okq (⟨"RookHusting$Election", "allMen", "()I"⟩, 2) := ⟨⟨by decide +kernel, by decide +kernel⟩, List.mem_of_getElem? (i := 239) (by decide +kernel), List.mem_of_getElem? (i := 714) (by decide +kernel), List.mem_of_getElem? (i := 715) (by decide +kernel)⟩
theorem lw_p19 : lw_okq (⟨"RookHusting", "settle", "()V"⟩, 16) := ⟨⟨by decide +kernel, by decide +kernel⟩, List.mem_of_getElem? (i := 22) (by decide +kernel), List.mem_of_getElem? (i := 723) (by decide +kernel), List.mem_of_getElem? (i := 724) (by decide +kernel)⟩
theorem lw_p20 : lw_okq (⟨"RookHusting$Harvest", "frighten", "(LRookHusting$Hundred;LRookHusting$Scene;I)V"⟩, 9) := ⟨⟨by decide +kernel, by decide +kernel⟩, List.mem_of_getElem? (i := 281) (by decide +kernel), List.mem_of_getElem? (i := 748) (by decide +kernel), List.mem_of_getElem? (i := 749) (by decide +kernel)⟩
theorem lw_p21 : lw_okq (⟨"RookHusting$Harvest", "beginNextDay", "(I)V"⟩, 9) := ⟨⟨by decide +kernel, by decide +kernel⟩, List.mem_of_getElem? (i := 281) (by decide +kernel), List.mem_of_getElem? (i := 756) (by decide +kernel), List.mem_of_getElem? (i := 757) (by decide +kernel)⟩
theorem lw_p22 : lw_okq (⟨"RookHusting$Harvest", "eatAndFly", "(LRookHusting$Scene;I)V"⟩, 9) := ⟨⟨by decide +kernel, by decide +kernel⟩, List.mem_of_getElem? (i := 281) (by decide +kernel), List.mem_of_getElem? (i := 760) (by decide +kernel), List.mem_of_getElem? (i := 761) (by decide +kernel)⟩
theorem lw_p23 : lw_okq (⟨"RookHusting$Harvest", "leastFeared", "(II)I"⟩, 9) := ⟨⟨by decide +kernel, by decide +kernel⟩, List.mem_of_getElem? (i := 281) (by decide +kernel), List.mem_of_getElem? (i := 765) (by decide +kernel), List.mem_of_getElem? (i := 766) (by decide +kernel)⟩
theorem lw_p24 : lw_okq (⟨"RookHusting$Election", "isWantedMore", "(III)Z"⟩, 2) := ⟨⟨by decide +kernel, by decide +kernel⟩, List.mem_of_getElem? (i := 239) (by decide +kernel), List.mem_of_getElem? (i := 782) (by decide +kernel), List.mem_of_getElem? (i := 783) (by decide +kernel)⟩
theorem lw_p25 : lw_okq (⟨"RookHusting$Election", "isOver", "(II)Z"⟩, 2) := ⟨⟨by decide +kernel, by decide +kernel⟩, List.mem_of_getElem? (i := 239) (by decide +kernel), List.mem_of_getElem? (i := 794) (by decide +kernel), List.mem_of_getElem? (i := 795) (by decide +kernel)⟩
theorem lw_p26 : lw_okq (⟨"RookHusting$Election", "isRing", "(III)Z"⟩, 2) := ⟨⟨by decide +kernel, by decide +kernel⟩, List.mem_of_getElem? (i := 239) (by decide +kernel), List.mem_of_getElem? (i := 807) (by decide +kernel), List.mem_of_getElem? (i := 808) (by decide +kernel)⟩
theorem lw_p27 : lw_okq (⟨"RookHusting$Election", "hatsOf", "(I)I"⟩, 2) := ⟨⟨by decide +kernel, by decide +kernel⟩, List.mem_of_getElem? (i := 239) (by decide +kernel), List.mem_of_getElem? (i := 819) (by decide +kernel), List.mem_of_getElem? (i := 820) (by decide +kernel)⟩
theorem lw_p28 : lw_okq (⟨"RookHusting$Election", "winnerOfAll", "(I)I"⟩, 2) := ⟨⟨by decide +kernel, by decide +kernel⟩, List.mem_of_getElem? (i := 239) (by decide +kernel), List.mem_of_getElem? (i := 823) (by decide +kernel), List.mem_of_getElem? (i := 824) (by decide +kernel)⟩
theorem lw_p29 : lw_okq (⟨"RookHusting", "learnPlain", "()V"⟩, 16) := ⟨⟨by decide +kernel, by decide +kernel⟩, List.mem_of_getElem? (i := 22) (by decide +kernel), List.mem_of_getElem? (i := 831) (by decide +kernel), List.mem_of_getElem? (i := 832) (by decide +kernel)⟩
theorem lw_p30 : lw_okq (⟨"RookHusting$Election", "gainsBehind", "(IIII)Z"⟩, 2) := ⟨⟨by decide +kernel, by decide +kernel⟩, List.mem_of_getElem? (i := 239) (by decide +kernel), List.mem_of_getElem? (i := 840) (by decide +kernel), List.mem_of_getElem? (i := 841) (by decide +kernel)⟩
theorem lw_p31 : lw_okq (⟨"RookHusting", "isDay", "(I)Z"⟩, 16) := ⟨⟨by decide +kernel, by decide +kernel⟩, List.mem_of_getElem? (i := 22) (by decide +kernel), List.mem_of_getElem? (i := 893) (by decide +kernel), List.mem_of_getElem? (i := 894) (by decide +kernel)⟩
def lw_privs_2 : List (MethodName × Nat) := [(⟨"RookHusting$Election", "lastOfFewest", "([III)I"⟩, 2), (⟨"RookHusting$Election", "firstOfMost", "([IIII)I"⟩, 2), (⟨"RookHusting$Election", "allMen", "()I"⟩, 2), (⟨"RookHusting", "settle", "()V"⟩, 16), (⟨"RookHusting$Harvest", "frighten", "(LRookHusting$Hundred;LRookHusting$Scene;I)V"⟩, 9), (⟨"RookHusting$Harvest", "beginNextDay", "(I)V"⟩, 9), (⟨"RookHusting$Harvest", "eatAndFly", "(LRookHusting$Scene;I)V"⟩, 9), (⟨"RookHusting$Harvest", "leastFeared", "(II)I"⟩, 9), (⟨"RookHusting$Election", "isWantedMore", "(III)Z"⟩, 2), (⟨"RookHusting$Election", "isOver", "(II)Z"⟩, 2), (⟨"RookHusting$Election", "isRing", "(III)Z"⟩, 2), (⟨"RookHusting$Election", "hatsOf", "(I)I"⟩, 2), (⟨"RookHusting$Election", "winnerOfAll", "(I)I"⟩, 2), (⟨"RookHusting", "learnPlain", "()V"⟩, 16), (⟨"RookHusting$Election", "gainsBehind", "(IIII)Z"⟩, 2), (⟨"RookHusting", "isDay", "(I)Z"⟩, 16)]
theorem lw_r2 : ∀ q ∈ lw_privs_2, lw_okq q := List.forall_mem_cons.mpr ⟨lw_p16, List.forall_mem_cons.mpr ⟨lw_p17, List.forall_mem_cons.mpr ⟨lw_p18, List.forall_mem_cons.mpr ⟨lw_p19, List.forall_mem_cons.mpr ⟨lw_p20, List.forall_mem_cons.mpr ⟨lw_p21, List.forall_mem_cons.mpr ⟨lw_p22, List.forall_mem_cons.mpr ⟨lw_p23, List.forall_mem_cons.mpr ⟨lw_p24, List.forall_mem_cons.mpr ⟨lw_p25, List.forall_mem_cons.mpr ⟨lw_p26, List.forall_mem_cons.mpr ⟨lw_p27, List.forall_mem_cons.mpr ⟨lw_p28, List.forall_mem_cons.mpr ⟨lw_p29, List.forall_mem_cons.mpr ⟨lw_p30, List.forall_mem_cons.mpr ⟨lw_p31, fun _ h => absurd h List.not_mem_nil⟩⟩⟩⟩⟩⟩⟩⟩⟩⟩⟩⟩⟩⟩⟩⟩
theorem lw_p32 : lw_okq (⟨"RookHusting", "cellNow", "([III)I"⟩, 16) := ⟨⟨by decide +kernel, by decide +kernel⟩, List.mem_of_getElem? (i := 22) (by decide +kernel), List.mem_of_getElem? (i := 897) (by decide +kernel), List.mem_of_getElem? (i := 898) (by decide +kernel)⟩
theorem lw_p33 : lw_okq (⟨"RookHusting", "isEatingDay", "(I)Z"⟩, 16) := ⟨⟨by decide +kernel, by decide +kernel⟩, List.mem_of_getElem? (i := 22) (by decide +kernel), List.mem_of_getElem? (i := 913) (by decide +kernel), List.mem_of_getElem? (i := 914) (by decide +kernel)⟩
theorem lw_p34 : lw_okq (⟨"RookHusting", "sumNow", "([II)I"⟩, 16) := ⟨⟨by decide +kernel, by decide +kernel⟩, List.mem_of_getElem? (i := 22) (by decide +kernel), List.mem_of_getElem? (i := 925) (by decide +kernel), List.mem_of_getElem? (i := 926) (by decide +kernel)⟩
theorem lw_p35 : lw_okq (⟨"RookHusting", "mostNow", "([II)I"⟩, 16) := ⟨⟨by decide +kernel, by decide +kernel⟩, List.mem_of_getElem? (i := 22) (by decide +kernel), List.mem_of_getElem? (i := 937) (by decide +kernel), List.mem_of_getElem? (i := 938) (by decide +kernel)⟩
theorem lw_p36 : lw_okq (⟨"RookHusting", "firstZeroNow", "([II)I"⟩, 16) := ⟨⟨by decide +kernel, by decide +kernel⟩, List.mem_of_getElem? (i := 22) (by decide +kernel), List.mem_of_getElem? (i := 953) (by decide +kernel), List.mem_of_getElem? (i := 954) (by decide +kernel)⟩
theorem lw_p37 : lw_okq (⟨"RookHusting$PutSearch", "fillFrom", "(II)V"⟩, 8) := ⟨⟨by decide +kernel, by decide +kernel⟩, List.mem_of_getElem? (i := 322) (by decide +kernel), List.mem_of_getElem? (i := 1026) (by decide +kernel), List.mem_of_getElem? (i := 1027) (by decide +kernel)⟩
theorem lw_p38 : lw_okq (⟨"RookHusting$PutSearch", "weighRow", "(I)V"⟩, 8) := ⟨⟨by decide +kernel, by decide +kernel⟩, List.mem_of_getElem? (i := 322) (by decide +kernel), List.mem_of_getElem? (i := 1031) (by decide +kernel), List.mem_of_getElem? (i := 1032) (by decide +kernel)⟩
theorem lw_p39 : lw_okq (⟨"RookHusting", "leftByLaw", "(I)I"⟩, 16) := ⟨⟨by decide +kernel, by decide +kernel⟩, List.mem_of_getElem? (i := 22) (by decide +kernel), List.mem_of_getElem? (i := 1056) (by decide +kernel), List.mem_of_getElem? (i := 1057) (by decide +kernel)⟩
theorem lw_p40 : lw_okq (⟨"RookHusting", "leftOnTrial", "()I"⟩, 16) := ⟨⟨by decide +kernel, by decide +kernel⟩, List.mem_of_getElem? (i := 22) (by decide +kernel), List.mem_of_getElem? (i := 1060) (by decide +kernel), List.mem_of_getElem? (i := 1061) (by decide +kernel)⟩
theorem lw_p41 : lw_okq (⟨"RookHusting", "wrongSeen", "(II)I"⟩, 16) := ⟨⟨by decide +kernel, by decide +kernel⟩, List.mem_of_getElem? (i := 22) (by decide +kernel), List.mem_of_getElem? (i := 1081) (by decide +kernel), List.mem_of_getElem? (i := 1082) (by decide +kernel)⟩
theorem lw_p42 : lw_okq (⟨"RookHusting", "guessAll", "(II)V"⟩, 16) := ⟨⟨by decide +kernel, by decide +kernel⟩, List.mem_of_getElem? (i := 22) (by decide +kernel), List.mem_of_getElem? (i := 1099) (by decide +kernel), List.mem_of_getElem? (i := 1100) (by decide +kernel)⟩
theorem lw_p43 : lw_okq (⟨"RookHusting", "isAsSeen", "(I)Z"⟩, 16) := ⟨⟨by decide +kernel, by decide +kernel⟩, List.mem_of_getElem? (i := 22) (by decide +kernel), List.mem_of_getElem? (i := 1104) (by decide +kernel), List.mem_of_getElem? (i := 1105) (by decide +kernel)⟩
theorem lw_p44 : lw_okq (⟨"RookHusting$Guesses", "mostAlike", "(I)I"⟩, 4) := ⟨⟨by decide +kernel, by decide +kernel⟩, List.mem_of_getElem? (i := 358) (by decide +kernel), List.mem_of_getElem? (i := 1122) (by decide +kernel), List.mem_of_getElem? (i := 1123) (by decide +kernel)⟩
theorem lw_p45 : lw_okq (⟨"RookHusting$Guesses", "countAlike", "(II)I"⟩, 4) := ⟨⟨by decide +kernel, by decide +kernel⟩, List.mem_of_getElem? (i := 358) (by decide +kernel), List.mem_of_getElem? (i := 1127) (by decide +kernel), List.mem_of_getElem? (i := 1128) (by decide +kernel)⟩
theorem lw_p46 : lw_okq (⟨"RookHusting", "gainOf", "(IIII)I"⟩, 16) := ⟨⟨by decide +kernel, by decide +kernel⟩, List.mem_of_getElem? (i := 22) (by decide +kernel), List.mem_of_getElem? (i := 1140) (by decide +kernel), List.mem_of_getElem? (i := 1141) (by decide +kernel)⟩
theorem lw_p47 : lw_okq (⟨"RookHusting", "isChanceDay", "(I)Z"⟩, 16) := ⟨⟨by decide +kernel, by decide +kernel⟩, List.mem_of_getElem? (i := 22) (by decide +kernel), List.mem_of_getElem? (i := 1152) (by decide +kernel), List.mem_of_getElem? (i := 1153) (by decide +kernel)⟩
def lw_privs_3 : List (MethodName × Nat) := [(⟨"RookHusting", "cellNow", "([III)I"⟩, 16), (⟨"RookHusting", "isEatingDay", "(I)Z"⟩, 16), (⟨"RookHusting", "sumNow", "([II)I"⟩, 16), (⟨"RookHusting", "mostNow", "([II)I"⟩, 16), (⟨"RookHusting", "firstZeroNow", "([II)I"⟩, 16), (⟨"RookHusting$PutSearch", "fillFrom", "(II)V"⟩, 8), (⟨"RookHusting$PutSearch", "weighRow", "(I)V"⟩, 8), (⟨"RookHusting", "leftByLaw", "(I)I"⟩, 16), (⟨"RookHusting", "leftOnTrial", "()I"⟩, 16), (⟨"RookHusting", "wrongSeen", "(II)I"⟩, 16), (⟨"RookHusting", "guessAll", "(II)V"⟩, 16), (⟨"RookHusting", "isAsSeen", "(I)Z"⟩, 16), (⟨"RookHusting$Guesses", "mostAlike", "(I)I"⟩, 4), (⟨"RookHusting$Guesses", "countAlike", "(II)I"⟩, 4), (⟨"RookHusting", "gainOf", "(IIII)I"⟩, 16), (⟨"RookHusting", "isChanceDay", "(I)Z"⟩, 16)]
theorem lw_r3 : ∀ q ∈ lw_privs_3, lw_okq q := List.forall_mem_cons.mpr ⟨lw_p32, List.forall_mem_cons.mpr ⟨lw_p33, List.forall_mem_cons.mpr ⟨lw_p34, List.forall_mem_cons.mpr ⟨lw_p35, List.forall_mem_cons.mpr ⟨lw_p36, List.forall_mem_cons.mpr ⟨lw_p37, List.forall_mem_cons.mpr ⟨lw_p38, List.forall_mem_cons.mpr ⟨lw_p39, List.forall_mem_cons.mpr ⟨lw_p40, List.forall_mem_cons.mpr ⟨lw_p41, List.forall_mem_cons.mpr ⟨lw_p42, List.forall_mem_cons.mpr ⟨lw_p43, List.forall_mem_cons.mpr ⟨lw_p44, List.forall_mem_cons.mpr ⟨lw_p45, List.forall_mem_cons.mpr ⟨lw_p46, List.forall_mem_cons.mpr ⟨lw_p47, fun _ h => absurd h List.not_mem_nil⟩⟩⟩⟩⟩⟩⟩⟩⟩⟩⟩⟩⟩⟩⟩⟩
theorem lw_p48 : lw_okq (⟨"RookHusting", "windWeight", "(II)J"⟩, 16) := ⟨⟨by decide +kernel, by decide +kernel⟩, List.mem_of_getElem? (i := 22) (by decide +kernel), List.mem_of_getElem? (i := 1157) (by decide +kernel), List.mem_of_getElem? (i := 1158) (by decide +kernel)⟩
theorem lw_p49 : lw_okq (⟨"RookHusting", "drawWind", "(J)I"⟩, 16) := ⟨⟨by decide +kernel, by decide +kernel⟩, List.mem_of_getElem? (i := 22) (by decide +kernel), List.mem_of_getElem? (i := 1177) (by decide +kernel), List.mem_of_getElem? (i := 1178) (by decide +kernel)⟩
theorem lw_p50 : lw_okq (⟨"RookHusting", "drawHarvest", "(J)V"⟩, 16) := ⟨⟨by decide +kernel, by decide +kernel⟩, List.mem_of_getElem? (i := 22) (by decide +kernel), List.mem_of_getElem? (i := 1185) (by decide +kernel), List.mem_of_getElem? (i := 1186) (by decide +kernel)⟩
theorem lw_p51 : lw_okq (⟨"RookHustingModel", "advance", "()V"⟩, 45) := ⟨⟨by decide +kernel, by decide +kernel⟩, List.mem_of_getElem? (i := 1272) (by decide +kernel), List.mem_of_getElem? (i := 1442) (by decide +kernel), List.mem_of_getElem? (i := 1443) (by decide +kernel)⟩
theorem lw_p52 : lw_okq (⟨"RookHustingModel", "see", "(I)I"⟩, 45) := ⟨⟨by decide +kernel, by decide +kernel⟩, List.mem_of_getElem? (i := 1272) (by decide +kernel), List.mem_of_getElem? (i := 1446) (by decide +kernel), List.mem_of_getElem? (i := 1447) (by decide +kernel)⟩
theorem lw_p53 : lw_okq (⟨"RookHustingModel", "good", "()Z"⟩, 45) := ⟨⟨by decide +kernel, by decide +kernel⟩, List.mem_of_getElem? (i := 1272) (by decide +kernel), List.mem_of_getElem? (i := 1456) (by decide +kernel), List.mem_of_getElem? (i := 1457) (by decide +kernel)⟩
theorem lw_p54 : lw_okq (⟨"RookHustingModel", "readLine", "()V"⟩, 45) := ⟨⟨by decide +kernel, by decide +kernel⟩, List.mem_of_getElem? (i := 1272) (by decide +kernel), List.mem_of_getElem? (i := 1460) (by decide +kernel), List.mem_of_getElem? (i := 1461) (by decide +kernel)⟩
theorem lw_p55 : lw_okq (⟨"RookHustingModel", "readFirst", "()V"⟩, 45) := ⟨⟨by decide +kernel, by decide +kernel⟩, List.mem_of_getElem? (i := 1272) (by decide +kernel), List.mem_of_getElem? (i := 1464) (by decide +kernel), List.mem_of_getElem? (i := 1465) (by decide +kernel)⟩
theorem lw_p56 : lw_okq (⟨"RookHustingModel", "expects", "(Ljava/lang/String;)V"⟩, 45) := ⟨⟨by decide +kernel, by decide +kernel⟩, List.mem_of_getElem? (i := 1272) (by decide +kernel), List.mem_of_getElem? (i := 1469) (by decide +kernel), List.mem_of_getElem? (i := 1470) (by decide +kernel)⟩
theorem lw_p57 : lw_okq (⟨"RookHustingModel", "takes", "(Ljava/lang/String;)Z"⟩, 45) := ⟨⟨by decide +kernel, by decide +kernel⟩, List.mem_of_getElem? (i := 1272) (by decide +kernel), List.mem_of_getElem? (i := 1473) (by decide +kernel), List.mem_of_getElem? (i := 1474) (by decide +kernel)⟩
theorem lw_p58 : lw_okq (⟨"RookHustingModel", "is", "(Ljava/lang/String;)Z"⟩, 45) := ⟨⟨by decide +kernel, by decide +kernel⟩, List.mem_of_getElem? (i := 1272) (by decide +kernel), List.mem_of_getElem? (i := 1477) (by decide +kernel), List.mem_of_getElem? (i := 1478) (by decide +kernel)⟩
theorem lw_p59 : lw_okq (⟨"RookHustingModel", "errs", "(I)V"⟩, 45) := ⟨⟨by decide +kernel, by decide +kernel⟩, List.mem_of_getElem? (i := 1272) (by decide +kernel), List.mem_of_getElem? (i := 1483) (by decide +kernel), List.mem_of_getElem? (i := 1484) (by decide +kernel)⟩
theorem lw_p60 : lw_okq (⟨"RookHustingModel", "told", "(Ljava/lang/String;II)I"⟩, 45) := ⟨⟨by decide +kernel, by decide +kernel⟩, List.mem_of_getElem? (i := 1272) (by decide +kernel), List.mem_of_getElem? (i := 1488) (by decide +kernel), List.mem_of_getElem? (i := 1489) (by decide +kernel)⟩
theorem lw_p61 : lw_okq (⟨"RookHustingModel", "number", "(II)I"⟩, 45) := ⟨⟨by decide +kernel, by decide +kernel⟩, List.mem_of_getElem? (i := 1272) (by decide +kernel), List.mem_of_getElem? (i := 1492) (by decide +kernel), List.mem_of_getElem? (i := 1493) (by decide +kernel)⟩
theorem lw_p62 : lw_okq (⟨"RookHustingModel", "readNext", "()V"⟩, 45) := ⟨⟨by decide +kernel, by decide +kernel⟩, List.mem_of_getElem? (i := 1272) (by decide +kernel), List.mem_of_getElem? (i := 1498) (by decide +kernel), List.mem_of_getElem? (i := 1499) (by decide +kernel)⟩
theorem lw_p63 : lw_okq (⟨"RookHustingModel", "isFull", "()Z"⟩, 45) := ⟨⟨by decide +kernel, by decide +kernel⟩, List.mem_of_getElem? (i := 1272) (by decide +kernel), List.mem_of_getElem? (i := 1506) (by decide +kernel), List.mem_of_getElem? (i := 1507) (by decide +kernel)⟩
def lw_privs_4 : List (MethodName × Nat) := [(⟨"RookHusting", "windWeight", "(II)J"⟩, 16), (⟨"RookHusting", "drawWind", "(J)I"⟩, 16), (⟨"RookHusting", "drawHarvest", "(J)V"⟩, 16), (⟨"RookHustingModel", "advance", "()V"⟩, 45), (⟨"RookHustingModel", "see", "(I)I"⟩, 45), (⟨"RookHustingModel", "good", "()Z"⟩, 45), (⟨"RookHustingModel", "readLine", "()V"⟩, 45), (⟨"RookHustingModel", "readFirst", "()V"⟩, 45), (⟨"RookHustingModel", "expects", "(Ljava/lang/String;)V"⟩, 45), (⟨"RookHustingModel", "takes", "(Ljava/lang/String;)Z"⟩, 45), (⟨"RookHustingModel", "is", "(Ljava/lang/String;)Z"⟩, 45), (⟨"RookHustingModel", "errs", "(I)V"⟩, 45), (⟨"RookHustingModel", "told", "(Ljava/lang/String;II)I"⟩, 45), (⟨"RookHustingModel", "number", "(II)I"⟩, 45), (⟨"RookHustingModel", "readNext", "()V"⟩, 45), (⟨"RookHustingModel", "isFull", "()Z"⟩, 45)]
theorem lw_r4 : ∀ q ∈ lw_privs_4, lw_okq q := List.forall_mem_cons.mpr ⟨lw_p48, List.forall_mem_cons.mpr ⟨lw_p49, List.forall_mem_cons.mpr ⟨lw_p50, List.forall_mem_cons.mpr ⟨lw_p51, List.forall_mem_cons.mpr ⟨lw_p52, List.forall_mem_cons.mpr ⟨lw_p53, List.forall_mem_cons.mpr ⟨lw_p54, List.forall_mem_cons.mpr ⟨lw_p55, List.forall_mem_cons.mpr ⟨lw_p56, List.forall_mem_cons.mpr ⟨lw_p57, List.forall_mem_cons.mpr ⟨lw_p58, List.forall_mem_cons.mpr ⟨lw_p59, List.forall_mem_cons.mpr ⟨lw_p60, List.forall_mem_cons.mpr ⟨lw_p61, List.forall_mem_cons.mpr ⟨lw_p62, List.forall_mem_cons.mpr ⟨lw_p63, fun _ h => absurd h List.not_mem_nil⟩⟩⟩⟩⟩⟩⟩⟩⟩⟩⟩⟩⟩⟩⟩⟩
theorem lw_p64 : lw_okq (⟨"RookHustingModel", "readHedge", "()V"⟩, 45) := ⟨⟨by decide +kernel, by decide +kernel⟩, List.mem_of_getElem? (i := 1272) (by decide +kernel), List.mem_of_getElem? (i := 1512) (by decide +kernel), List.mem_of_getElem? (i := 1513) (by decide +kernel)⟩
theorem lw_p65 : lw_okq (⟨"RookHustingModel", "readVoter", "()V"⟩, 45) := ⟨⟨by decide +kernel, by decide +kernel⟩, List.mem_of_getElem? (i := 1272) (by decide +kernel), List.mem_of_getElem? (i := 1518) (by decide +kernel), List.mem_of_getElem? (i := 1519) (by decide +kernel)⟩
theorem lw_p66 : lw_okq (⟨"RookHustingModel", "isField", "(J)Z"⟩, 45) := ⟨⟨by decide +kernel, by decide +kernel⟩, List.mem_of_getElem? (i := 1272) (by decide +kernel), List.mem_of_getElem? (i := 1530) (by decide +kernel), List.mem_of_getElem? (i := 1531) (by decide +kernel)⟩
theorem lw_p67 : lw_okq (⟨"RookHustingModel", "fields", "()I"⟩, 45) := ⟨⟨by decide +kernel, by decide +kernel⟩, List.mem_of_getElem? (i := 1272) (by decide +kernel), List.mem_of_getElem? (i := 1534) (by decide +kernel), List.mem_of_getElem? (i := 1535) (by decide +kernel)⟩
theorem lw_p68 : lw_okq (⟨"RookHustingModel", "isMan", "(I)Z"⟩, 45) := ⟨⟨by decide +kernel, by decide +kernel⟩, List.mem_of_getElem? (i := 1272) (by decide +kernel), List.mem_of_getElem? (i := 1542) (by decide +kernel), List.mem_of_getElem? (i := 1543) (by decide +kernel)⟩
theorem lw_p69 : lw_okq (⟨"RookHustingModel", "men", "()I"⟩, 45) := ⟨⟨by decide +kernel, by decide +kernel⟩, List.mem_of_getElem? (i := 1272) (by decide +kernel), List.mem_of_getElem? (i := 1546) (by decide +kernel), List.mem_of_getElem? (i := 1547) (by decide +kernel)⟩
theorem lw_p70 : lw_okq (⟨"RookHustingModel", "isVoter", "(I)Z"⟩, 45) := ⟨⟨by decide +kernel, by decide +kernel⟩, List.mem_of_getElem? (i := 1272) (by decide +kernel), List.mem_of_getElem? (i := 1554) (by decide +kernel), List.mem_of_getElem? (i := 1555) (by decide +kernel)⟩
theorem lw_p71 : lw_okq (⟨"RookHustingModel", "hatsOf", "(I)I"⟩, 45) := ⟨⟨by decide +kernel, by decide +kernel⟩, List.mem_of_getElem? (i := 1272) (by decide +kernel), List.mem_of_getElem? (i := 1558) (by decide +kernel), List.mem_of_getElem? (i := 1559) (by decide +kernel)⟩
theorem lw_p72 : lw_okq (⟨"RookHustingModel", "rowsAsTold", "()V"⟩, 45) := ⟨⟨by decide +kernel, by decide +kernel⟩, List.mem_of_getElem? (i := 1272) (by decide +kernel), List.mem_of_getElem? (i := 1566) (by decide +kernel), List.mem_of_getElem? (i := 1567) (by decide +kernel)⟩
theorem lw_p73 : lw_okq (⟨"RookHustingModel", "isSet", "(I)Z"⟩, 45) := ⟨⟨by decide +kernel, by decide +kernel⟩, List.mem_of_getElem? (i := 1272) (by decide +kernel), List.mem_of_getElem? (i := 1574) (by decide +kernel), List.mem_of_getElem? (i := 1575) (by decide +kernel)⟩
theorem lw_p74 : lw_okq (⟨"RookHustingModel", "isHundred", "()Z"⟩, 45) := ⟨⟨by decide +kernel, by decide +kernel⟩, List.mem_of_getElem? (i := 1272) (by decide +kernel), List.mem_of_getElem? (i := 1578) (by decide +kernel), List.mem_of_getElem? (i := 1579) (by decide +kernel)⟩
theorem lw_p75 : lw_okq (⟨"RookHustingModel", "allMen", "()I"⟩, 45) := ⟨⟨by decide +kernel, by decide +kernel⟩, List.mem_of_getElem? (i := 1272) (by decide +kernel), List.mem_of_getElem? (i := 1582) (by decide +kernel), List.mem_of_getElem? (i := 1583) (by decide +kernel)⟩
theorem lw_p76 : lw_okq (⟨"RookHustingModel", "votesOf", "(III)I"⟩, 45) := ⟨⟨by decide +kernel, by decide +kernel⟩, List.mem_of_getElem? (i := 1272) (by decide +kernel), List.mem_of_getElem? (i := 1587) (by decide +kernel), List.mem_of_getElem? (i := 1588) (by decide +kernel)⟩
theorem lw_p77 : lw_okq (⟨"RookHustingModel", "timesOf", "(IIII)I"⟩, 45) := ⟨⟨by decide +kernel, by decide +kernel⟩, List.mem_of_getElem? (i := 1272) (by decide +kernel), List.mem_of_getElem? (i := 1591) (by decide +kernel), List.mem_of_getElem? (i := 1592) (by decide +kernel)⟩
theorem lw_p78 : lw_okq (⟨"RookHustingModel", "electsOf", "(II)I"⟩, 45) := ⟨⟨by decide +kernel, by decide +kernel⟩, List.mem_of_getElem? (i := 1272) (by decide +kernel), List.mem_of_getElem? (i := 1602) (by decide +kernel), List.mem_of_getElem? (i := 1603) (by decide +kernel)⟩
theorem lw_p79 : lw_okq (⟨"RookHustingModel", "fewestOf", "(I)I"⟩, 45) := ⟨⟨by decide +kernel, by decide +kernel⟩, List.mem_of_getElem? (i := 1272) (by decide +kernel), List.mem_of_getElem? (i := 1606) (by decide +kernel), List.mem_of_getElem? (i := 1607) (by decide +kernel)⟩
def lw_privs_5 : List (MethodName × Nat) := [(⟨"RookHustingModel", "readHedge", "()V"⟩, 45), (⟨"RookHustingModel", "readVoter", "()V"⟩, 45), (⟨"RookHustingModel", "isField", "(J)Z"⟩, 45), (⟨"RookHustingModel", "fields", "()I"⟩, 45), (⟨"RookHustingModel", "isMan", "(I)Z"⟩, 45), (⟨"RookHustingModel", "men", "()I"⟩, 45), (⟨"RookHustingModel", "isVoter", "(I)Z"⟩, 45), (⟨"RookHustingModel", "hatsOf", "(I)I"⟩, 45), (⟨"RookHustingModel", "rowsAsTold", "()V"⟩, 45), (⟨"RookHustingModel", "isSet", "(I)Z"⟩, 45), (⟨"RookHustingModel", "isHundred", "()Z"⟩, 45), (⟨"RookHustingModel", "allMen", "()I"⟩, 45), (⟨"RookHustingModel", "votesOf", "(III)I"⟩, 45), (⟨"RookHustingModel", "timesOf", "(IIII)I"⟩, 45), (⟨"RookHustingModel", "electsOf", "(II)I"⟩, 45), (⟨"RookHustingModel", "fewestOf", "(I)I"⟩, 45)]
theorem lw_r5 : ∀ q ∈ lw_privs_5, lw_okq q := List.forall_mem_cons.mpr ⟨lw_p64, List.forall_mem_cons.mpr ⟨lw_p65, List.forall_mem_cons.mpr ⟨lw_p66, List.forall_mem_cons.mpr ⟨lw_p67, List.forall_mem_cons.mpr ⟨lw_p68, List.forall_mem_cons.mpr ⟨lw_p69, List.forall_mem_cons.mpr ⟨lw_p70, List.forall_mem_cons.mpr ⟨lw_p71, List.forall_mem_cons.mpr ⟨lw_p72, List.forall_mem_cons.mpr ⟨lw_p73, List.forall_mem_cons.mpr ⟨lw_p74, List.forall_mem_cons.mpr ⟨lw_p75, List.forall_mem_cons.mpr ⟨lw_p76, List.forall_mem_cons.mpr ⟨lw_p77, List.forall_mem_cons.mpr ⟨lw_p78, List.forall_mem_cons.mpr ⟨lw_p79, fun _ h => absurd h List.not_mem_nil⟩⟩⟩⟩⟩⟩⟩⟩⟩⟩⟩⟩⟩⟩⟩⟩
theorem lw_p80 : lw_okq (⟨"RookHustingModel", "mostOf", "(II)I"⟩, 45) := ⟨⟨by decide +kernel, by decide +kernel⟩, List.mem_of_getElem? (i := 1272) (by decide +kernel), List.mem_of_getElem? (i := 1610) (by decide +kernel), List.mem_of_getElem? (i := 1611) (by decide +kernel)⟩
theorem lw_p81 : lw_okq (⟨"RookHustingModel", "electAll", "(I)V"⟩, 45) := ⟨⟨by decide +kernel, by decide +kernel⟩, List.mem_of_getElem? (i := 1272) (by decide +kernel), List.mem_of_getElem? (i := 1618) (by decide +kernel), List.mem_of_getElem? (i := 1619) (by decide +kernel)⟩
theorem lw_p82 : lw_okq (⟨"RookHustingModel", "overOf", "(II)I"⟩, 45) := ⟨⟨by decide +kernel, by decide +kernel⟩, List.mem_of_getElem? (i := 1272) (by decide +kernel), List.mem_of_getElem? (i := 1626) (by decide +kernel), List.mem_of_getElem? (i := 1627) (by decide +kernel)⟩
theorem lw_p83 : lw_okq (⟨"RookHustingModel", "wantsMore", "(III)Z"⟩, 45) := ⟨⟨by decide +kernel, by decide +kernel⟩, List.mem_of_getElem? (i := 1272) (by decide +kernel), List.mem_of_getElem? (i := 1630) (by decide +kernel), List.mem_of_getElem? (i := 1631) (by decide +kernel)⟩
theorem lw_p84 : lw_okq (⟨"RookHustingModel", "isOver", "(II)Z"⟩, 45) := ⟨⟨by decide +kernel, by decide +kernel⟩, List.mem_of_getElem? (i := 1272) (by decide +kernel), List.mem_of_getElem? (i := 1638) (by decide +kernel), List.mem_of_getElem? (i := 1639) (by decide +kernel)⟩
theorem lw_p85 : lw_okq (⟨"RookHustingModel", "isRing", "(III)Z"⟩, 45) := ⟨⟨by decide +kernel, by decide +kernel⟩, List.mem_of_getElem? (i := 1272) (by decide +kernel), List.mem_of_getElem? (i := 1646) (by decide +kernel), List.mem_of_getElem? (i := 1647) (by decide +kernel)⟩
theorem lw_p86 : lw_okq (⟨"RookHustingModel", "hatsIn", "(I)I"⟩, 45) := ⟨⟨by decide +kernel, by decide +kernel⟩, List.mem_of_getElem? (i := 1272) (by decide +kernel), List.mem_of_getElem? (i := 1655) (by decide +kernel), List.mem_of_getElem? (i := 1656) (by decide +kernel)⟩
theorem lw_p87 : lw_okq (⟨"RookHustingModel", "gainsOf", "(I)Z"⟩, 45) := ⟨⟨by decide +kernel, by decide +kernel⟩, List.mem_of_getElem? (i := 1272) (by decide +kernel), List.mem_of_getElem? (i := 1663) (by decide +kernel), List.mem_of_getElem? (i := 1664) (by decide +kernel)⟩
theorem lw_p88 : lw_okq (⟨"RookHustingModel", "doesGain", "(IIII)Z"⟩, 45) := ⟨⟨by decide +kernel, by decide +kernel⟩, List.mem_of_getElem? (i := 1272) (by decide +kernel), List.mem_of_getElem? (i := 1667) (by decide +kernel), List.mem_of_getElem? (i := 1668) (by decide +kernel)⟩
theorem lw_p89 : lw_okq (⟨"RookHustingModel", "asItIs", "()V"⟩, 45) := ⟨⟨by decide +kernel, by decide +kernel⟩, List.mem_of_getElem? (i := 1272) (by decide +kernel), List.mem_of_getElem? (i := 1711) (by decide +kernel), List.mem_of_getElem? (i := 1712) (by decide +kernel)⟩
theorem lw_p90 : lw_okq (⟨"RookHustingModel", "asElected", "(I)V"⟩, 45) := ⟨⟨by decide +kernel, by decide +kernel⟩, List.mem_of_getElem? (i := 1272) (by decide +kernel), List.mem_of_getElem? (i := 1715) (by decide +kernel), List.mem_of_getElem? (i := 1716) (by decide +kernel)⟩
theorem lw_p91 : lw_okq (⟨"RookHustingModel", "speeches", "()V"⟩, 45) := ⟨⟨by decide +kernel, by decide +kernel⟩, List.mem_of_getElem? (i := 1272) (by decide +kernel), List.mem_of_getElem? (i := 1719) (by decide +kernel), List.mem_of_getElem? (i := 1720) (by decide +kernel)⟩
theorem lw_p92 : lw_okq (⟨"RookHustingModel", "putMan", "(II)V"⟩, 45) := ⟨⟨by decide +kernel, by decide +kernel⟩, List.mem_of_getElem? (i := 1272) (by decide +kernel), List.mem_of_getElem? (i := 1723) (by decide +kernel), List.mem_of_getElem? (i := 1724) (by decide +kernel)⟩
theorem lw_p93 : lw_okq (⟨"RookHustingModel", "hedgesOf", "(I)I"⟩, 45) := ⟨⟨by decide +kernel, by decide +kernel⟩, List.mem_of_getElem? (i := 1272) (by decide +kernel), List.mem_of_getElem? (i := 1739) (by decide +kernel), List.mem_of_getElem? (i := 1740) (by decide +kernel)⟩
theorem lw_p94 : lw_okq (⟨"RookHustingModel", "asksDay", "(I)Z"⟩, 45) := ⟨⟨by decide +kernel, by decide +kernel⟩, List.mem_of_getElem? (i := 1272) (by decide +kernel), List.mem_of_getElem? (i := 1747) (by decide +kernel), List.mem_of_getElem? (i := 1748) (by decide +kernel)⟩
theorem lw_p95 : lw_okq (⟨"RookHustingModel", "asksHundred", "()Z"⟩, 45) := ⟨⟨by decide +kernel, by decide +kernel⟩, List.mem_of_getElem? (i := 1272) (by decide +kernel), List.mem_of_getElem? (i := 1751) (by decide +kernel), List.mem_of_getElem? (i := 1752) (by decide +kernel)⟩
def lw_privs_6 : List (MethodName × Nat) := [(⟨"RookHustingModel", "mostOf", "(II)I"⟩, 45), (⟨"RookHustingModel", "electAll", "(I)V"⟩, 45), (⟨"RookHustingModel", "overOf", "(II)I"⟩, 45), (⟨"RookHustingModel", "wantsMore", "(III)Z"⟩, 45), (⟨"RookHustingModel", "isOver", "(II)Z"⟩, 45), (⟨"RookHustingModel", "isRing", "(III)Z"⟩, 45), (⟨"RookHustingModel", "hatsIn", "(I)I"⟩, 45), (⟨"RookHustingModel", "gainsOf", "(I)Z"⟩, 45), (⟨"RookHustingModel", "doesGain", "(IIII)Z"⟩, 45), (⟨"RookHustingModel", "asItIs", "()V"⟩, 45), (⟨"RookHustingModel", "asElected", "(I)V"⟩, 45), (⟨"RookHustingModel", "speeches", "()V"⟩, 45), (⟨"RookHustingModel", "putMan", "(II)V"⟩, 45), (⟨"RookHustingModel", "hedgesOf", "(I)I"⟩, 45), (⟨"RookHustingModel", "asksDay", "(I)Z"⟩, 45), (⟨"RookHustingModel", "asksHundred", "()Z"⟩, 45)]
theorem lw_r6 : ∀ q ∈ lw_privs_6, lw_okq q := List.forall_mem_cons.mpr ⟨lw_p80, List.forall_mem_cons.mpr ⟨lw_p81, List.forall_mem_cons.mpr ⟨lw_p82, List.forall_mem_cons.mpr ⟨lw_p83, List.forall_mem_cons.mpr ⟨lw_p84, List.forall_mem_cons.mpr ⟨lw_p85, List.forall_mem_cons.mpr ⟨lw_p86, List.forall_mem_cons.mpr ⟨lw_p87, List.forall_mem_cons.mpr ⟨lw_p88, List.forall_mem_cons.mpr ⟨lw_p89, List.forall_mem_cons.mpr ⟨lw_p90, List.forall_mem_cons.mpr ⟨lw_p91, List.forall_mem_cons.mpr ⟨lw_p92, List.forall_mem_cons.mpr ⟨lw_p93, List.forall_mem_cons.mpr ⟨lw_p94, List.forall_mem_cons.mpr ⟨lw_p95, fun _ h => absurd h List.not_mem_nil⟩⟩⟩⟩⟩⟩⟩⟩⟩⟩⟩⟩⟩⟩⟩⟩
theorem lw_p96 : lw_okq (⟨"RookHustingModel", "goAll", "()V"⟩, 45) := ⟨⟨by decide +kernel, by decide +kernel⟩, List.mem_of_getElem? (i := 1272) (by decide +kernel), List.mem_of_getElem? (i := 1755) (by decide +kernel), List.mem_of_getElem? (i := 1756) (by decide +kernel)⟩
theorem lw_p97 : lw_okq (⟨"RookHustingModel", "days", "()I"⟩, 45) := ⟨⟨by decide +kernel, by decide +kernel⟩, List.mem_of_getElem? (i := 1272) (by decide +kernel), List.mem_of_getElem? (i := 1759) (by decide +kernel), List.mem_of_getElem? (i := 1760) (by decide +kernel)⟩
theorem lw_p98 : lw_okq (⟨"RookHustingModel", "fearOf", "(II)I"⟩, 45) := ⟨⟨by decide +kernel, by decide +kernel⟩, List.mem_of_getElem? (i := 1272) (by decide +kernel), List.mem_of_getElem? (i := 1763) (by decide +kernel), List.mem_of_getElem? (i := 1764) (by decide +kernel)⟩
theorem lw_p99 : lw_okq (⟨"RookHustingModel", "goDay", "(I)V"⟩, 45) := ⟨⟨by decide +kernel, by decide +kernel⟩, List.mem_of_getElem? (i := 1272) (by decide +kernel), List.mem_of_getElem? (i := 1768) (by decide +kernel), List.mem_of_getElem? (i := 1769) (by decide +kernel)⟩
theorem lw_p100 : lw_okq (⟨"RookHustingModel", "flyTo", "(II)I"⟩, 45) := ⟨⟨by decide +kernel, by decide +kernel⟩, List.mem_of_getElem? (i := 1272) (by decide +kernel), List.mem_of_getElem? (i := 1772) (by decide +kernel), List.mem_of_getElem? (i := 1773) (by decide +kernel)⟩
theorem lw_p101 : lw_okq (⟨"RookHustingModel", "isDay", "(J)Z"⟩, 45) := ⟨⟨by decide +kernel, by decide +kernel⟩, List.mem_of_getElem? (i := 1272) (by decide +kernel), List.mem_of_getElem? (i := 1776) (by decide +kernel), List.mem_of_getElem? (i := 1777) (by decide +kernel)⟩
theorem lw_p102 : lw_okq (⟨"RookHustingModel", "asksAhead", "(I)Z"⟩, 45) := ⟨⟨by decide +kernel, by decide +kernel⟩, List.mem_of_getElem? (i := 1272) (by decide +kernel), List.mem_of_getElem? (i := 1792) (by decide +kernel), List.mem_of_getElem? (i := 1793) (by decide +kernel)⟩
theorem lw_p103 : lw_okq (⟨"RookHustingModel", "isAhead", "(J)Z"⟩, 45) := ⟨⟨by decide +kernel, by decide +kernel⟩, List.mem_of_getElem? (i := 1272) (by decide +kernel), List.mem_of_getElem? (i := 1796) (by decide +kernel), List.mem_of_getElem? (i := 1797) (by decide +kernel)⟩
theorem lw_p104 : lw_okq (⟨"RookHustingModel", "allCorn", "(I)I"⟩, 45) := ⟨⟨by decide +kernel, by decide +kernel⟩, List.mem_of_getElem? (i := 1272) (by decide +kernel), List.mem_of_getElem? (i := 1808) (by decide +kernel), List.mem_of_getElem? (i := 1809) (by decide +kernel)⟩
theorem lw_p105 : lw_okq (⟨"RookHustingModel", "asksField", "(I)Z"⟩, 45) := ⟨⟨by decide +kernel, by decide +kernel⟩, List.mem_of_getElem? (i := 1272) (by decide +kernel), List.mem_of_getElem? (i := 1820) (by decide +kernel), List.mem_of_getElem? (i := 1821) (by decide +kernel)⟩
theorem lw_p106 : lw_okq (⟨"RookHustingModel", "asksRows", "()Z"⟩, 45) := ⟨⟨by decide +kernel, by decide +kernel⟩, List.mem_of_getElem? (i := 1272) (by decide +kernel), List.mem_of_getElem? (i := 1868) (by decide +kernel), List.mem_of_getElem? (i := 1869) (by decide +kernel)⟩
theorem lw_p107 : lw_okq (⟨"RookHustingModel", "tryRow", "()V"⟩, 45) := ⟨⟨by decide +kernel, by decide +kernel⟩, List.mem_of_getElem? (i := 1272) (by decide +kernel), List.mem_of_getElem? (i := 1872) (by decide +kernel), List.mem_of_getElem? (i := 1873) (by decide +kernel)⟩
theorem lw_p108 : lw_okq (⟨"RookHustingModel", "menIn", "()I"⟩, 45) := ⟨⟨by decide +kernel, by decide +kernel⟩, List.mem_of_getElem? (i := 1272) (by decide +kernel), List.mem_of_getElem? (i := 1876) (by decide +kernel), List.mem_of_getElem? (i := 1877) (by decide +kernel)⟩
theorem lw_p109 : lw_okq (⟨"RookHustingModel", "allLast", "()I"⟩, 45) := ⟨⟨by decide +kernel, by decide +kernel⟩, List.mem_of_getElem? (i := 1272) (by decide +kernel), List.mem_of_getElem? (i := 1880) (by decide +kernel), List.mem_of_getElem? (i := 1881) (by decide +kernel)⟩
theorem lw_p110 : lw_okq (⟨"RookHustingModel", "nextRow", "()Z"⟩, 45) := ⟨⟨by decide +kernel, by decide +kernel⟩, List.mem_of_getElem? (i := 1272) (by decide +kernel), List.mem_of_getElem? (i := 1884) (by decide +kernel), List.mem_of_getElem? (i := 1885) (by decide +kernel)⟩
theorem lw_p111 : lw_okq (⟨"RookHustingModel", "leftBy", "(I)I"⟩, 45) := ⟨⟨by decide +kernel, by decide +kernel⟩, List.mem_of_getElem? (i := 1272) (by decide +kernel), List.mem_of_getElem? (i := 1904) (by decide +kernel), List.mem_of_getElem? (i := 1905) (by decide +kernel)⟩
def lw_privs_7 : List (MethodName × Nat) := [(⟨"RookHustingModel", "goAll", "()V"⟩, 45), (⟨"RookHustingModel", "days", "()I"⟩, 45), (⟨"RookHustingModel", "fearOf", "(II)I"⟩, 45), (⟨"RookHustingModel", "goDay", "(I)V"⟩, 45), (⟨"RookHustingModel", "flyTo", "(II)I"⟩, 45), (⟨"RookHustingModel", "isDay", "(J)Z"⟩, 45), (⟨"RookHustingModel", "asksAhead", "(I)Z"⟩, 45), (⟨"RookHustingModel", "isAhead", "(J)Z"⟩, 45), (⟨"RookHustingModel", "allCorn", "(I)I"⟩, 45), (⟨"RookHustingModel", "asksField", "(I)Z"⟩, 45), (⟨"RookHustingModel", "asksRows", "()Z"⟩, 45), (⟨"RookHustingModel", "tryRow", "()V"⟩, 45), (⟨"RookHustingModel", "menIn", "()I"⟩, 45), (⟨"RookHustingModel", "allLast", "()I"⟩, 45), (⟨"RookHustingModel", "nextRow", "()Z"⟩, 45), (⟨"RookHustingModel", "leftBy", "(I)I"⟩, 45)]
theorem lw_r7 : ∀ q ∈ lw_privs_7, lw_okq q := List.forall_mem_cons.mpr ⟨lw_p96, List.forall_mem_cons.mpr ⟨lw_p97, List.forall_mem_cons.mpr ⟨lw_p98, List.forall_mem_cons.mpr ⟨lw_p99, List.forall_mem_cons.mpr ⟨lw_p100, List.forall_mem_cons.mpr ⟨lw_p101, List.forall_mem_cons.mpr ⟨lw_p102, List.forall_mem_cons.mpr ⟨lw_p103, List.forall_mem_cons.mpr ⟨lw_p104, List.forall_mem_cons.mpr ⟨lw_p105, List.forall_mem_cons.mpr ⟨lw_p106, List.forall_mem_cons.mpr ⟨lw_p107, List.forall_mem_cons.mpr ⟨lw_p108, List.forall_mem_cons.mpr ⟨lw_p109, List.forall_mem_cons.mpr ⟨lw_p110, List.forall_mem_cons.mpr ⟨lw_p111, fun _ h => absurd h List.not_mem_nil⟩⟩⟩⟩⟩⟩⟩⟩⟩⟩⟩⟩⟩⟩⟩⟩
theorem lw_p112 : lw_okq (⟨"RookHustingModel", "layMay", "(II)I"⟩, 45) := ⟨⟨by decide +kernel, by decide +kernel⟩, List.mem_of_getElem? (i := 1272) (by decide +kernel), List.mem_of_getElem? (i := 1924) (by decide +kernel), List.mem_of_getElem? (i := 1925) (by decide +kernel)⟩
theorem lw_p113 : lw_okq (⟨"RookHustingModel", "askSeen", "(II)I"⟩, 45) := ⟨⟨by decide +kernel, by decide +kernel⟩, List.mem_of_getElem? (i := 1272) (by decide +kernel), List.mem_of_getElem? (i := 1928) (by decide +kernel), List.mem_of_getElem? (i := 1929) (by decide +kernel)⟩
theorem lw_p114 : lw_okq (⟨"RookHustingModel", "numberAt", "(II)J"⟩, 45) := ⟨⟨by decide +kernel, by decide +kernel⟩, List.mem_of_getElem? (i := 1272) (by decide +kernel), List.mem_of_getElem? (i := 1935) (by decide +kernel), List.mem_of_getElem? (i := 1936) (by decide +kernel)⟩
theorem lw_p115 : lw_okq (⟨"RookHustingModel", "isSeen", "(I)Z"⟩, 45) := ⟨⟨by decide +kernel, by decide +kernel⟩, List.mem_of_getElem? (i := 1272) (by decide +kernel), List.mem_of_getElem? (i := 1940) (by decide +kernel), List.mem_of_getElem? (i := 1941) (by decide +kernel)⟩
theorem lw_p116 : lw_okq (⟨"RookHustingModel", "askOf", "()I"⟩, 45) := ⟨⟨by decide +kernel, by decide +kernel⟩, List.mem_of_getElem? (i := 1272) (by decide +kernel), List.mem_of_getElem? (i := 1948) (by decide +kernel), List.mem_of_getElem? (i := 1949) (by decide +kernel)⟩
theorem lw_p117 : lw_okq (⟨"RookHustingModel", "sameBy", "(II)I"⟩, 45) := ⟨⟨by decide +kernel, by decide +kernel⟩, List.mem_of_getElem? (i := 1272) (by decide +kernel), List.mem_of_getElem? (i := 1952) (by decide +kernel), List.mem_of_getElem? (i := 1953) (by decide +kernel)⟩
theorem lw_p118 : lw_okq (⟨"RookHustingModel", "areFields", "(II)Z"⟩, 45) := ⟨⟨by decide +kernel, by decide +kernel⟩, List.mem_of_getElem? (i := 1272) (by decide +kernel), List.mem_of_getElem? (i := 1964) (by decide +kernel), List.mem_of_getElem? (i := 1965) (by decide +kernel)⟩
theorem lw_p119 : lw_okq (⟨"RookHustingModel", "getsBy", "(IIIII)I"⟩, 45) := ⟨⟨by decide +kernel, by decide +kernel⟩, List.mem_of_getElem? (i := 1272) (by decide +kernel), List.mem_of_getElem? (i := 1968) (by decide +kernel), List.mem_of_getElem? (i := 1969) (by decide +kernel)⟩
theorem lw_p120 : lw_okq (⟨"RookHustingModel", "isWinds", "(II)Z"⟩, 45) := ⟨⟨by decide +kernel, by decide +kernel⟩, List.mem_of_getElem? (i := 1272) (by decide +kernel), List.mem_of_getElem? (i := 1981) (by decide +kernel), List.mem_of_getElem? (i := 1982) (by decide +kernel)⟩
theorem lw_p121 : lw_okq (⟨"RookHustingModel", "layWinds", "(III)V"⟩, 45) := ⟨⟨by decide +kernel, by decide +kernel⟩, List.mem_of_getElem? (i := 1272) (by decide +kernel), List.mem_of_getElem? (i := 1987) (by decide +kernel), List.mem_of_getElem? (i := 1988) (by decide +kernel)⟩
theorem lw_p122 : lw_okq (⟨"RookHustingModel", "keepAct", "(I)Z"⟩, 45) := ⟨⟨by decide +kernel, by decide +kernel⟩, List.mem_of_getElem? (i := 1272) (by decide +kernel), List.mem_of_getElem? (i := 1999) (by decide +kernel), List.mem_of_getElem? (i := 2000) (by decide +kernel)⟩
theorem lw_p123 : lw_okq (⟨"RookHustingModel", "goDrawn", "(J)V"⟩, 45) := ⟨⟨by decide +kernel, by decide +kernel⟩, List.mem_of_getElem? (i := 1272) (by decide +kernel), List.mem_of_getElem? (i := 2023) (by decide +kernel), List.mem_of_getElem? (i := 2024) (by decide +kernel)⟩
def lw_privs_8 : List (MethodName × Nat) := [(⟨"RookHustingModel", "layMay", "(II)I"⟩, 45), (⟨"RookHustingModel", "askSeen", "(II)I"⟩, 45), (⟨"RookHustingModel", "numberAt", "(II)J"⟩, 45), (⟨"RookHustingModel", "isSeen", "(I)Z"⟩, 45), (⟨"RookHustingModel", "askOf", "()I"⟩, 45), (⟨"RookHustingModel", "sameBy", "(II)I"⟩, 45), (⟨"RookHustingModel", "areFields", "(II)Z"⟩, 45), (⟨"RookHustingModel", "getsBy", "(IIIII)I"⟩, 45), (⟨"RookHustingModel", "isWinds", "(II)Z"⟩, 45), (⟨"RookHustingModel", "layWinds", "(III)V"⟩, 45), (⟨"RookHustingModel", "keepAct", "(I)Z"⟩, 45), (⟨"RookHustingModel", "goDrawn", "(J)V"⟩, 45)]
theorem lw_r8 : ∀ q ∈ lw_privs_8, lw_okq q := List.forall_mem_cons.mpr ⟨lw_p112, List.forall_mem_cons.mpr ⟨lw_p113, List.forall_mem_cons.mpr ⟨lw_p114, List.forall_mem_cons.mpr ⟨lw_p115, List.forall_mem_cons.mpr ⟨lw_p116, List.forall_mem_cons.mpr ⟨lw_p117, List.forall_mem_cons.mpr ⟨lw_p118, List.forall_mem_cons.mpr ⟨lw_p119, List.forall_mem_cons.mpr ⟨lw_p120, List.forall_mem_cons.mpr ⟨lw_p121, List.forall_mem_cons.mpr ⟨lw_p122, List.forall_mem_cons.mpr ⟨lw_p123, fun _ h => absurd h List.not_mem_nil⟩⟩⟩⟩⟩⟩⟩⟩⟩⟩⟩⟩
def lw_privs : List (MethodName × Nat) := lw_privs_1 ++ (lw_privs_2 ++ (lw_privs_3 ++ (lw_privs_4 ++ (lw_privs_5 ++ (lw_privs_6 ++ (lw_privs_7 ++ (lw_privs_8)))))))
def lw_tbl : List Cond := k2_sels lw_privs ++ tables_1
theorem lw_privs_ok : ∀ q ∈ lw_privs, lw_okq q := by
  show ∀ q ∈ lw_privs_1 ++ (lw_privs_2 ++ (lw_privs_3 ++ (lw_privs_4 ++ (lw_privs_5 ++ (lw_privs_6 ++ (lw_privs_7 ++ (lw_privs_8))))))), lw_okq q
  exact List.forall_mem_append.mpr ⟨lw_r1, List.forall_mem_append.mpr ⟨lw_r2, List.forall_mem_append.mpr ⟨lw_r3, List.forall_mem_append.mpr ⟨lw_r4, List.forall_mem_append.mpr ⟨lw_r5, List.forall_mem_append.mpr ⟨lw_r6, List.forall_mem_append.mpr ⟨lw_r7, lw_r8⟩⟩⟩⟩⟩⟩⟩
-- ===== end of PART A; then your names; then what follows =====
/-- the words that every method may lean on: those of the tables that travel -/
def gTbl : List Cond := lw_tbl.filter goodWord
theorem gT_of {w : Cond} {i : Nat} (h : lw_tbl[i]? = some w) (hg : goodWord w = true) : w ∈ gTbl := List.mem_filter.mpr ⟨List.mem_of_getElem? h, hg⟩
theorem gT_good {c : Cond} (hc : c ∈ gTbl) : GoodIn gTbl (c :: gTbl) := fun w hw => by
  rcases List.mem_cons.mp hw with rfl | hw
  · exact ⟨hc, good_of_word (List.mem_filter.mp hc).2⟩
  · exact ⟨hw, good_of_word (List.mem_filter.mp hw).2⟩
end
section
/-! ===== an interpreter over intervals: its values ===== -/
abbrev AV : Type := Nat × Int × Int
abbrev AC : Type := (Nat × List AV) ⊕ (Nat × List (Nat × AV))
abbrev GI : Type := List (Int × Int)
abbrev EV : Type := List Value × List Nat
/-- two lists, place by place -/
def zf2 {α β : Type} (R : α → β → Prop) : List α → List β → Prop
  | [], [] => True
  | a :: as, b :: bs => R a b ∧ zf2 R as bs
  | [], _ :: _ => False
  | _ :: _, [] => False
theorem zf2_get {α β : Type} {R : α → β → Prop} : ∀ {as : List α} {bs : List β}, zf2 R as bs → ∀ {i : Nat} {a : α}, as[i]? = some a → ∃ b, bs[i]? = some b ∧ R a b
  | [], [], _, i, a, h => by simp at h
  | x :: as, y :: bs, h, 0, a, hi => ⟨y, rfl, by cases hi; exact h.1⟩
  | x :: as, y :: bs, h, i + 1, a, hi => zf2_get (as := as) (bs := bs) h.2 (i := i) (by simpa using hi)
theorem zf2_len {α β : Type} {R : α → β → Prop} : ∀ {as : List α} {bs : List β}, zf2 R as bs → as.length = bs.length
  | [], [], _ => rfl
  | _ :: as, _ :: bs, h => congrArg (· + 1) (zf2_len (as := as) (bs := bs) h.2)
theorem zf2_mono {α β : Type} {R S : α → β → Prop} (hm : ∀ a b, R a b → S a b) : ∀ {as : List α} {bs : List β}, zf2 R as bs → zf2 S as bs
  | [], [], _ => trivial
  | _ :: as, _ :: bs, h => ⟨hm _ _ h.1, zf2_mono hm (as := as) (bs := bs) h.2⟩
theorem zf2_set {α β : Type} {R : α → β → Prop} {a : α} {b : β} (hr : R a b) : ∀ {as : List α} {bs : List β}, zf2 R as bs → ∀ (i : Nat), zf2 R (as.set i a) (bs.set i b)
  | [], [], _, _ => trivial
  | _ :: as, _ :: bs, h, 0 => ⟨hr, h.2⟩
  | _ :: as, _ :: bs, h, i + 1 => ⟨h.1, zf2_set hr (as := as) (bs := bs) h.2 i⟩
theorem zf2_app {α β : Type} {R : α → β → Prop} {a : α} {b : β} (hr : R a b) : ∀ {as : List α} {bs : List β}, zf2 R as bs → zf2 R (as ++ [a]) (bs ++ [b])
  | [], [], _ => ⟨hr, trivial⟩
  | _ :: as, _ :: bs, h => ⟨h.1, zf2_app hr (as := as) (bs := bs) h.2⟩
theorem zf2_of {α β : Type} {R : α → β → Prop} : ∀ {as : List α} {bs : List β}, as.length = bs.length → (∀ (i : Nat) (a : α) (b : β), as[i]? = some a → bs[i]? = some b → R a b) → zf2 R as bs
  | [], [], _, _ => trivial
  | [], _ :: _, h, _ => by simp at h
  | _ :: _, [], h, _ => by simp at h
  | a :: as, b :: bs, h, hr => ⟨hr 0 a b rfl rfl, zf2_of (as := as) (bs := bs) (by simpa using h) (fun i x y hx hy => hr (i + 1) x y (by simpa using hx) (by simpa using hy))⟩
theorem zf2_cons {α β : Type} {R : α → β → Prop} {a : α} {as : List α} {bs : List β} (h : zf2 R (a :: as) bs) : ∃ b bs', bs = b :: bs' ∧ R a b ∧ zf2 R as bs' := by
  cases bs with
  | nil => exact h.elim
  | cons b bs' => exact ⟨b, bs', rfl, h.1, h.2⟩
def inI (q : Int × Int) (z : Int) : Prop := q.1 ≤ z ∧ z ≤ q.2
abbrev GS (G : GI) (g : List Int) : Prop := zf2 inI G g
def gxt (g g' : List Int) : Prop := ∃ e, g' = g ++ e
theorem gxt_rf {g : List Int} : gxt g g := ⟨[], by simp⟩
theorem gxt_one {g : List Int} {z : Int} : gxt g (g ++ [z]) := ⟨[z], rfl⟩
theorem gxt_tr {a b c : List Int} (h : gxt a b) (k : gxt b c) : gxt a c := by
  obtain ⟨e, rfl⟩ := h; obtain ⟨f, rfl⟩ := k; exact ⟨e ++ f, by simp⟩
theorem gxt_get {g g' : List Int} (h : gxt g g') {i : Nat} {z : Int} (hi : g[i]? = some z) : g'[i]? = some z := by
  obtain ⟨e, rfl⟩ := h
  rw [List.getElem?_append_left (List.getElem?_eq_some_iff.mp hi).1]; exact hi
/-- what a value is: 0 an int, 1 a named int and more, 2 an int between; 3, 4, 5 the same of longs; 6 a place of the world; 7 null; 8 a value as it was -/
def gam (g : List Int) (V : EV) (a : AV) (v : Value) : Prop :=
  match a.1 with
  | 0 => ∃ x : Int32, v = .int x ∧ x.toInt = a.2.1
  | 1 => ∃ x : Int32, v = .int x ∧ ∃ z, g[a.2.1.toNat]? = some z ∧ x.toInt = z + a.2.2
  | 2 => ∃ x : Int32, v = .int x ∧ a.2.1 ≤ x.toInt ∧ x.toInt ≤ a.2.2
  | 3 => ∃ x : Int64, v = .long x ∧ x.toInt = a.2.1
  | 4 => ∃ x : Int64, v = .long x ∧ ∃ z, g[a.2.1.toNat]? = some z ∧ x.toInt = z + a.2.2
  | 5 => ∃ x : Int64, v = .long x ∧ a.2.1 ≤ x.toInt ∧ x.toInt ≤ a.2.2
  | 6 => ∃ r : Nat, V.2[a.2.1.toNat]? = some r ∧ v = .ref r
  | 7 => v = .null
  | 8 => V.1[a.2.1.toNat]? = some v
  | 11 => ∃ r : Nat, V.1[a.2.1.toNat]? = some (.ref r) ∧ v = .ref r
  | _ => False
theorem gam_ext {g g' : List Int} {V : EV} {a : AV} {v : Value} (h : gxt g g') (hg : gam g V a v) : gam g' V a v := by
  unfold gam at hg ⊢
  split at hg
  · exact hg
  · obtain ⟨x, h1, z, h2, h3⟩ := hg; exact ⟨x, h1, z, gxt_get h h2, h3⟩
  · exact hg
  · exact hg
  · obtain ⟨x, h1, z, h2, h3⟩ := hg; exact ⟨x, h1, z, gxt_get h h2, h3⟩
  · exact hg
  · exact hg
  · exact hg
  · exact hg
  · exact hg
  · exact hg.elim
def ivI (G : GI) (a : AV) : Option (Int × Int) :=
  match a.1 with
  | 0 => some (a.2.1, a.2.1)
  | 1 => match G[a.2.1.toNat]? with
    | some q => some (q.1 + a.2.2, q.2 + a.2.2)
    | none => none
  | 2 => some (a.2.1, a.2.2)
  | _ => none
def ivL (G : GI) (a : AV) : Option (Int × Int) :=
  match a.1 with
  | 3 => some (a.2.1, a.2.1)
  | 4 => match G[a.2.1.toNat]? with
    | some q => some (q.1 + a.2.2, q.2 + a.2.2)
    | none => none
  | 5 => some (a.2.1, a.2.2)
  | _ => none
theorem ivI_ok {G : GI} {g : List Int} {V : EV} {a : AV} {v : Value} {q : Int × Int} (hG : GS G g) (h : gam g V a v) (hi : ivI G a = some q) : ∃ x : Int32, v = .int x ∧ inI q x.toInt := by
  obtain ⟨t, b, c⟩ := a
  unfold ivI at hi
  split at hi
  · rename_i ht; simp only at ht; subst ht
    obtain ⟨x, h1, h2⟩ := h
    cases hi; exact ⟨x, h1, by simp only at h2; exact ⟨by simp [h2], by simp [h2]⟩⟩
  · rename_i ht; simp only at ht; subst ht
    obtain ⟨x, h1, z, h2, h3⟩ := h
    split at hi
    · rename_i r hr
      cases hi
      obtain ⟨z', h4, h5⟩ := zf2_get hG hr
      simp only at h2 h3
      have : z = z' := Option.some.inj (h2.symm.trans h4)
      subst this
      unfold inI at h5
      exact ⟨x, h1, by unfold inI; simp only; omega⟩
    · cases hi
  · rename_i ht; simp only at ht; subst ht
    obtain ⟨x, h1, h2, h3⟩ := h
    cases hi; exact ⟨x, h1, h2, h3⟩
  · cases hi
theorem ivL_ok {G : GI} {g : List Int} {V : EV} {a : AV} {v : Value} {q : Int × Int} (hG : GS G g) (h : gam g V a v) (hi : ivL G a = some q) : ∃ x : Int64, v = .long x ∧ inI q x.toInt := by
  obtain ⟨t, b, c⟩ := a
  unfold ivL at hi
  split at hi
  · rename_i ht; simp only at ht; subst ht
    obtain ⟨x, h1, h2⟩ := h
    cases hi; exact ⟨x, h1, by simp only at h2; exact ⟨by simp [h2], by simp [h2]⟩⟩
  · rename_i ht; simp only at ht; subst ht
    obtain ⟨x, h1, z, h2, h3⟩ := h
    split at hi
    · rename_i r hr
      cases hi
      obtain ⟨z', h4, h5⟩ := zf2_get hG hr
      simp only at h2 h3
      have : z = z' := Option.some.inj (h2.symm.trans h4)
      subst this
      unfold inI at h5
      exact ⟨x, h1, by unfold inI; simp only; omega⟩
    · cases hi
  · rename_i ht; simp only at ht; subst ht
    obtain ⟨x, h1, h2, h3⟩ := h
    cases hi; exact ⟨x, h1, h2, h3⟩
  · cases hi
/-- a new number between two bounds -/
def mk2 (G : GI) (q : Int × Int) : GI × AV := if q.1 = q.2 then (G, (0, q.1, 0)) else (G ++ [q], (1, (G.length : Int), 0))
def mk5 (G : GI) (q : Int × Int) : GI × AV := if q.1 = q.2 then (G, (3, q.1, 0)) else (G ++ [q], (4, (G.length : Int), 0))
theorem mk2_ok {G : GI} {g : List Int} {V : EV} {q : Int × Int} (hG : GS G g) (x : Int32) (hx : inI q x.toInt) : ∃ g', gxt g g' ∧ GS (mk2 G q).1 g' ∧ gam g' V (mk2 G q).2 (.int x) := by
  unfold mk2
  split
  · rename_i h
    unfold inI at hx
    exact ⟨g, gxt_rf, hG, x, rfl, by simp only; omega⟩
  · refine ⟨g ++ [x.toInt], gxt_one, zf2_app hx hG, x, rfl, x.toInt, ?_, by simp⟩
    simp [zf2_len hG]
theorem mk5_ok {G : GI} {g : List Int} {V : EV} {q : Int × Int} (hG : GS G g) (x : Int64) (hx : inI q x.toInt) : ∃ g', gxt g g' ∧ GS (mk5 G q).1 g' ∧ gam g' V (mk5 G q).2 (.long x) := by
  unfold mk5
  split
  · rename_i h
    unfold inI at hx
    exact ⟨g, gxt_rf, hG, x, rfl, by simp only; omega⟩
  · refine ⟨g ++ [x.toInt], gxt_one, zf2_app hx hG, x, rfl, x.toInt, ?_, by simp⟩
    simp [zf2_len hG]
def topI : Int × Int := (-2147483648, 2147483647)
def topL : Int × Int := (-9223372036854775808, 9223372036854775807)
theorem topI_ok (x : Int32) : inI topI x.toInt := ⟨Int32.le_toInt x, by have := Int32.toInt_lt x; show x.toInt ≤ 2147483647; omega⟩
theorem topL_ok (x : Int64) : inI topL x.toInt := ⟨Int64.le_toInt x, by have := Int64.toInt_lt x; show x.toInt ≤ 9223372036854775807; omega⟩
end
section
/-! ===== sums and their like, over intervals ===== -/
def BinS (f : GI → AV → AV → Option (GI × AV)) (op : Int32 → Int32 → Int32) : Prop := ∀ (G : GI) (g : List Int) (V : EV) (a b : AV) (x y : Int32) (r : GI × AV), GS G g → gam g V a (.int x) → gam g V b (.int y) → f G a b = some r → ∃ g', gxt g g' ∧ GS r.1 g' ∧ gam g' V r.2 (.int (op x y))
def binF (F : Int × Int → Int × Int → Int × Int) (G : GI) (a b : AV) : Option (GI × AV) :=
  match ivI G a, ivI G b with
  | some p, some q => some (mk2 G (F p q))
  | _, _ => none
theorem binF_ok {F : Int × Int → Int × Int → Int × Int} {op : Int32 → Int32 → Int32} (h : ∀ (p q : Int × Int) (x y : Int32), inI p x.toInt → inI q y.toInt → inI (F p q) (op x y).toInt) : BinS (binF F) op := by
  intro G g V a b x y r hG ha hb hf
  unfold binF at hf
  split at hf
  · rename_i p q hp hq
    obtain ⟨x', e1, h1⟩ := ivI_ok hG ha hp
    obtain ⟨y', e2, h2⟩ := ivI_ok hG hb hq
    cases e1; cases e2; cases hf
    exact mk2_ok hG _ (h p q x y h1 h2)
  · cases hf
theorem ae_bm {z : Int} (h1 : -2147483648 ≤ z) (h2 : z ≤ 2147483647) : z.bmod (2 ^ 32) = z := Int.bmod_eq_of_le (by omega) (by omega)
theorem ae_bmL {z : Int} (h1 : -9223372036854775808 ≤ z) (h2 : z ≤ 9223372036854775807) : z.bmod (2 ^ 64) = z := Int.bmod_eq_of_le (by omega) (by omega)
/-- x + y: a named number and a known one keep the name -/
def addI (G : GI) (a b : AV) : Option (GI × AV) :=
  match ivI G a, ivI G b with
  | some p, some q =>
    if -2147483648 ≤ p.1 + q.1 ∧ p.2 + q.2 ≤ 2147483647 then
      if a.1 = 1 ∧ b.1 = 0 then some (G, (1, a.2.1, a.2.2 + b.2.1))
      else if a.1 = 0 ∧ b.1 = 1 then some (G, (1, b.2.1, b.2.2 + a.2.1))
      else some (mk2 G (p.1 + q.1, p.2 + q.2))
    else some (mk2 G topI)
  | _, _ => none
theorem addI_ok : BinS addI (fun x y => x + y) := by
  intro G g V a b x y r hG ha hb hf
  unfold addI at hf
  split at hf
  · rename_i p q hp hq
    obtain ⟨x', e1, h1⟩ := ivI_ok hG ha hp
    obtain ⟨y', e2, h2⟩ := ivI_ok hG hb hq
    cases e1; cases e2
    unfold inI at h1 h2
    split at hf
    · rename_i hr
      have hs : (x + y).toInt = x.toInt + y.toInt := by rw [Int32.toInt_add, ae_bm (by omega) (by omega)]
      split at hf
      · rename_i ht
        cases hf
        obtain ⟨ta, a1, a2⟩ := a; obtain ⟨tb, b1, b2⟩ := b
        simp only at ht
        obtain ⟨rfl, rfl⟩ := ht
        obtain ⟨u, eu, z, h4, h5⟩ := ha
        obtain ⟨w, ew, h6⟩ := hb
        cases eu; cases ew
        exact ⟨g, gxt_rf, hG, _, rfl, z, h4, by rw [hs]; simp only at h5 h6 ⊢; omega⟩
      · split at hf
        · rename_i ht
          cases hf
          obtain ⟨ta, a1, a2⟩ := a; obtain ⟨tb, b1, b2⟩ := b
          simp only at ht
          obtain ⟨rfl, rfl⟩ := ht
          obtain ⟨u, eu, h6⟩ := ha
          obtain ⟨w, ew, z, h4, h5⟩ := hb
          cases eu; cases ew
          exact ⟨g, gxt_rf, hG, _, rfl, z, h4, by rw [hs]; simp only at h5 h6 ⊢; omega⟩
        · cases hf
          exact mk2_ok hG _ (by unfold inI; rw [hs]; simp only; omega)
    · cases hf
      exact mk2_ok hG _ (topI_ok _)
  · cases hf
def subI (G : GI) (a b : AV) : Option (GI × AV) :=
  match ivI G a, ivI G b with
  | some p, some q =>
    if -2147483648 ≤ p.1 - q.2 ∧ p.2 - q.1 ≤ 2147483647 then
      if a.1 = 1 ∧ b.1 = 0 then some (G, (1, a.2.1, a.2.2 - b.2.1))
      else some (mk2 G (p.1 - q.2, p.2 - q.1))
    else some (mk2 G topI)
  | _, _ => none
theorem subI_ok : BinS subI (fun x y => x - y) := by
  intro G g V a b x y r hG ha hb hf
  unfold subI at hf
  split at hf
  · rename_i p q hp hq
    obtain ⟨x', e1, h1⟩ := ivI_ok hG ha hp
    obtain ⟨y', e2, h2⟩ := ivI_ok hG hb hq
    cases e1; cases e2
    unfold inI at h1 h2
    split at hf
    · rename_i hr
      have hs : (x - y).toInt = x.toInt - y.toInt := by rw [Int32.toInt_sub, ae_bm (by omega) (by omega)]
      split at hf
      · rename_i ht
        cases hf
        obtain ⟨ta, a1, a2⟩ := a; obtain ⟨tb, b1, b2⟩ := b
        simp only at ht
        obtain ⟨rfl, rfl⟩ := ht
        obtain ⟨u, eu, z, h4, h5⟩ := ha
        obtain ⟨w, ew, h6⟩ := hb
        cases eu; cases ew
        exact ⟨g, gxt_rf, hG, _, rfl, z, h4, by rw [hs]; simp only at h5 h6 ⊢; omega⟩
      · cases hf
        exact mk2_ok hG _ (by unfold inI; rw [hs]; simp only; omega)
    · cases hf
      exact mk2_ok hG _ (topI_ok _)
  · cases hf
def mulF (p q : Int × Int) : Int × Int := if 0 ≤ p.1 ∧ 0 ≤ q.1 ∧ p.2 * q.2 ≤ 2147483647 then (p.1 * q.1, p.2 * q.2) else topI
theorem ae_mul {a b c d x y : Int} (h0 : 0 ≤ a) (h1 : 0 ≤ c) (hx : a ≤ x) (hx2 : x ≤ b) (hy : c ≤ y) (hy2 : y ≤ d) : a * c ≤ x * y ∧ x * y ≤ b * d :=
  ⟨Int.mul_le_mul hx hy h1 (Int.le_trans h0 hx), Int.mul_le_mul hx2 hy2 (Int.le_trans h1 hy) (Int.le_trans (Int.le_trans h0 hx) hx2)⟩
theorem mulF_ok (p q : Int × Int) (x y : Int32) (hx : inI p x.toInt) (hy : inI q y.toInt) : inI (mulF p q) (x * y).toInt := by
  unfold mulF
  split
  · rename_i h
    unfold inI at hx hy
    have hm := ae_mul h.1 h.2.1 hx.1 hx.2 hy.1 hy.2
    have hp : 0 ≤ p.1 * q.1 := Int.mul_nonneg h.1 h.2.1
    rw [Int32.toInt_mul, ae_bm (by omega) (by omega)]
    exact hm
  · exact topI_ok _
theorem ae_and (x y : Int32) (hy : 0 ≤ y.toInt) : 0 ≤ (x &&& y).toInt ∧ (x &&& y).toInt ≤ y.toInt := by
  have e1 : (x &&& y).toInt = (x.toBitVec &&& y.toBitVec).toInt := rfl
  have e2 : y.toInt = y.toBitVec.toInt := rfl
  rw [e1]
  rw [e2] at hy ⊢
  have hle : (x.toBitVec &&& y.toBitVec).toNat ≤ y.toBitVec.toNat := by rw [BitVec.toNat_and]; exact Nat.and_le_right
  rw [BitVec.toInt_eq_toNat_cond] at hy ⊢
  rw [BitVec.toInt_eq_toNat_cond]
  have h1 := y.toBitVec.isLt
  have h2 := (x.toBitVec &&& y.toBitVec).isLt
  split at hy
  · rename_i h3
    rw [if_pos h3, if_pos (by omega)]
    omega
  · omega
theorem ae_andc (x y : Int32) : x &&& y = y &&& x := by
  apply Int32.toBitVec_inj.mp
  exact BitVec.and_comm _ _
def andF (p q : Int × Int) : Int × Int := if 0 ≤ q.1 ∧ 0 ≤ p.1 then (0, min p.2 q.2) else if 0 ≤ q.1 then (0, q.2) else if 0 ≤ p.1 then (0, p.2) else topI
theorem andF_ok (p q : Int × Int) (x y : Int32) (hx : inI p x.toInt) (hy : inI q y.toInt) : inI (andF p q) (x &&& y).toInt := by
  unfold inI at hx hy
  unfold andF
  split
  · have h1 := ae_and x y (by omega)
    have h2 := ae_and y x (by omega)
    rw [ae_andc y x] at h2
    exact ⟨h1.1, by simp only; omega⟩
  · split
    · have h1 := ae_and x y (by omega)
      exact ⟨h1.1, by simp only; omega⟩
    · split
      · have h2 := ae_and y x (by omega)
        rw [ae_andc y x] at h2
        exact ⟨h2.1, by simp only; omega⟩
      · exact topI_ok _
def topF (_ _ : Int × Int) : Int × Int := topI
theorem topF_ok {op : Int32 → Int32 → Int32} (p q : Int × Int) (x y : Int32) (_ : inI p x.toInt) (_ : inI q y.toInt) : inI (topF p q) (op x y).toInt := topI_ok _
def shrF (p _ : Int × Int) : Int × Int := if 0 ≤ p.1 then (0, p.2) else topI
theorem shrF_ok (p q : Int × Int) (x y : Int32) (hx : inI p x.toInt) (_ : inI q y.toInt) : inI (shrF p q) (x >>> (y &&& 31)).toInt := by
  unfold inI at hx
  unfold shrF
  split
  · rw [pk_shr x (y &&& 31) _ rfl, Int.shiftRight_eq_div_pow]
    refine ⟨Int.ediv_nonneg (by omega) (Int.natCast_nonneg _), ?_⟩
    exact Int.le_trans (Int.ediv_le_self _ (by omega)) hx.2
  · exact topI_ok _
theorem ae_sl : ∀ n : Nat, n < 32 → ((nI n &&& 31).toBitVec.smod 32).toNat = n := by decide +kernel
theorem ae_nI {x : Int32} (h : 0 ≤ x.toInt) : x = nI x.toInt.toNat := by
  apply Int32.toInt_inj.mp
  have := Int32.toInt_lt x
  rw [nI_toInt (by omega)]
  omega
def shlF (p q : Int × Int) : Int × Int := if 0 ≤ p.1 ∧ 0 ≤ q.1 ∧ q.2 ≤ 30 ∧ p.2 * ((2 ^ q.2.toNat : Nat) : Int) ≤ 2147483647 then (p.1 * ((2 ^ q.1.toNat : Nat) : Int), p.2 * ((2 ^ q.2.toNat : Nat) : Int)) else topI
theorem shlF_ok (p q : Int × Int) (x y : Int32) (hx : inI p x.toInt) (hy : inI q y.toInt) : inI (shlF p q) (x <<< (y &&& 31)).toInt := by
  unfold inI at hx hy
  unfold shlF
  split
  · rename_i h
    have ex := ae_nI (x := x) (by omega)
    have ey := ae_nI (x := y) (by omega)
    generalize hn : x.toInt.toNat = n at ex
    generalize hk : y.toInt.toNat = k at ey
    have hnx : x.toInt = (n : Int) := by omega
    have hky : y.toInt = (k : Int) := by omega
    have hp1 : (2 : Nat) ^ k ≤ 2 ^ q.2.toNat := Nat.pow_le_pow_right (by decide) (by omega)
    have hp2 : (2 : Nat) ^ q.1.toNat ≤ 2 ^ k := Nat.pow_le_pow_right (by decide) (by omega)
    have hm := ae_mul (a := p.1) (b := p.2) (c := ((2 ^ q.1.toNat : Nat) : Int)) (d := ((2 ^ q.2.toNat : Nat) : Int)) (x := (n : Int)) (y := ((2 ^ k : Nat) : Int)) h.1 (Int.natCast_nonneg _) (by omega) (by omega) (Int.ofNat_le.mpr hp2) (Int.ofNat_le.mpr hp1)
    have hb : n * 2 ^ k < 2 ^ 31 := by
      have : ((n * 2 ^ k : Nat) : Int) ≤ 2147483647 := by rw [Int.natCast_mul]; omega
      omega
    rw [ex, ey, pk_shlN _ k (ae_sl k (by omega)) (by omega), nI_toInt hb, Int.natCast_mul]
    exact hm
  · exact topI_ok _
def divF (p q : Int × Int) : Int × Int := if 0 ≤ p.1 ∧ 0 < q.1 then (0, p.2 / q.1) else topI
theorem divF_ok (p q : Int × Int) (x y : Int32) (hx : inI p x.toInt) (hy : inI q y.toInt) : inI (divF p q) (x / y).toInt := by
  unfold inI at hx hy
  unfold divF
  split
  · rename_i h
    have ex := ae_nI (x := x) (by omega)
    have ey := ae_nI (x := y) (by omega)
    have b1 := Int32.toInt_lt x
    have b2 := Int32.toInt_lt y
    generalize hn : x.toInt.toNat = n at ex
    generalize hk : y.toInt.toNat = k at ey
    have hnx : x.toInt = (n : Int) := by omega
    have hky : y.toInt = (k : Int) := by omega
    have hdl : n / k ≤ n := Nat.div_le_self n k
    rw [ex, ey, pk_div (by omega) (by omega) (by omega), nI_toInt (by omega)]
    refine ⟨Int.natCast_nonneg _, ?_⟩
    show ((n / k : Nat) : Int) ≤ p.2 / q.1
    rw [Int.natCast_ediv]
    refine Int.le_trans (Int.ediv_le_ediv (by omega) (show (n : Int) ≤ p.2 by omega)) ?_
    apply Int.le_ediv_of_mul_le h.2
    have h5 : p.2 / (k : Int) * q.1 ≤ p.2 / (k : Int) * (k : Int) := Int.mul_le_mul_of_nonneg_left (by omega) (Int.ediv_nonneg (by omega) (by omega))
    have h6 : p.2 / (k : Int) * (k : Int) ≤ p.2 := Int.ediv_mul_le _ (by omega)
    omega
  · exact topI_ok _
def remF (p q : Int × Int) : Int × Int := if 0 ≤ p.1 ∧ 0 < q.1 then (0, min p.2 (q.2 - 1)) else topI
theorem remF_ok (p q : Int × Int) (x y : Int32) (hx : inI p x.toInt) (hy : inI q y.toInt) : inI (remF p q) (x - x / y * y).toInt := by
  unfold inI at hx hy
  unfold remF
  split
  · rename_i h
    have ex := ae_nI (x := x) (by omega)
    have ey := ae_nI (x := y) (by omega)
    have b1 := Int32.toInt_lt x
    have b2 := Int32.toInt_lt y
    generalize hn : x.toInt.toNat = n at ex
    generalize hk : y.toInt.toNat = k at ey
    have hnx : x.toInt = (n : Int) := by omega
    have hky : y.toInt = (k : Int) := by omega
    have h1 : n % k ≤ n := Nat.mod_le n k
    have h2 : n % k < k := Nat.mod_lt n (by omega)
    rw [ex, ey, pk_rem (by omega) (by omega) (by omega), nI_toInt (by omega)]
    exact ⟨by omega, by simp only; omega⟩
  · exact topI_ok _
/-- an int as a long: the same number -/
def i2lA (a : AV) : Option AV := match a.1 with
  | 0 => some (3, a.2.1, a.2.2)
  | 1 => some (4, a.2.1, a.2.2)
  | 2 => some (5, a.2.1, a.2.2)
  | _ => none
theorem i2lA_ok {g : List Int} {V : EV} {a r : AV} {v : Value} (h : gam g V a v) (hr : i2lA a = some r) : ∃ x : Int32, v = .int x ∧ gam g V r (.long x.toInt64) := by
  obtain ⟨t, b, c⟩ := a
  unfold i2lA at hr
  split at hr
  · rename_i ht; simp only at ht; subst ht; cases hr
    obtain ⟨x, h1, h2⟩ := h
    exact ⟨x, h1, _, rfl, by rw [Int32.toInt_toInt64]; exact h2⟩
  · rename_i ht; simp only at ht; subst ht; cases hr
    obtain ⟨x, h1, z, h2, h3⟩ := h
    exact ⟨x, h1, _, rfl, z, h2, by rw [Int32.toInt_toInt64]; exact h3⟩
  · rename_i ht; simp only at ht; subst ht; cases hr
    obtain ⟨x, h1, h2, h3⟩ := h
    exact ⟨x, h1, _, rfl, by rw [Int32.toInt_toInt64]; exact h2, by rw [Int32.toInt_toInt64]; exact h3⟩
  · cases hr
theorem ae_i2b (x : Int32) : inI (-128, 127) x.toInt8.toInt32.toInt := by
  rw [lg_i2b_toInt]
  unfold inI
  have h1 := Int.le_bmod (x := x.toInt) (m := 2 ^ 8) (by decide)
  have h2 := Int.bmod_lt (x := x.toInt) (m := 2 ^ 8) (by decide)
  constructor <;> simp only <;> omega
end
section
/-! ===== comparisons, and what each way tells ===== -/
/-- 0 =, 1 ≠, 2 <, 3 ≥, 4 >, 5 ≤ -/
def cmpH (k : Nat) (x y : Int) : Prop := match k with
  | 0 => x = y
  | 1 => x ≠ y
  | 2 => x < y
  | 3 => y ≤ x
  | 4 => y < x
  | _ => x ≤ y
def cmpN (k : Nat) : Nat := match k with
  | 0 => 1
  | 1 => 0
  | 2 => 3
  | 3 => 2
  | 4 => 5
  | _ => 4
theorem cmpN_ok {k : Nat} {x y : Int} (h : ¬ cmpH k x y) : cmpH (cmpN k) x y := by
  unfold cmpH at h
  unfold cmpN cmpH
  split at h <;> simp only <;> omega
def cutR (k : Nat) (p q : Int × Int) : (Int × Int) × (Int × Int) := match k with
  | 0 => ((max p.1 q.1, min p.2 q.2), (max p.1 q.1, min p.2 q.2))
  | 1 => if q.1 = q.2 then ((if p.1 = q.1 then p.1 + 1 else p.1, if p.2 = q.1 then p.2 - 1 else p.2), q) else if p.1 = p.2 then (p, (if q.1 = p.1 then q.1 + 1 else q.1, if q.2 = p.1 then q.2 - 1 else q.2)) else (p, q)
  | 2 => ((p.1, min p.2 (q.2 - 1)), (max q.1 (p.1 + 1), q.2))
  | 3 => ((max p.1 q.1, p.2), (q.1, min q.2 p.2))
  | 4 => ((max p.1 (q.1 + 1), p.2), (q.1, min q.2 (p.2 - 1)))
  | _ => ((p.1, min p.2 q.2), (max q.1 p.1, q.2))
theorem cutR_ok {k : Nat} {p q : Int × Int} {x y : Int} (hx : inI p x) (hy : inI q y) (h : cmpH k x y) : inI (cutR k p q).1 x ∧ inI (cutR k p q).2 y := by
  unfold inI at hx hy ⊢
  unfold cmpH at h
  unfold cutR
  split at h
  · simp only; omega
  · split
    · simp only
      refine ⟨⟨?_, ?_⟩, hy⟩ <;> split <;> omega
    · split
      · simp only
        refine ⟨hx, ⟨?_, ?_⟩⟩ <;> split <;> omega
      · exact ⟨hx, hy⟩
  · simp only; omega
  · simp only; omega
  · simp only; omega
  · simp only; omega
def setG (G : GI) (a : AV) (q : Int × Int) : GI := match a.1 with
  | 1 => G.set a.2.1.toNat (q.1 - a.2.2, q.2 - a.2.2)
  | 4 => G.set a.2.1.toNat (q.1 - a.2.2, q.2 - a.2.2)
  | _ => G
theorem zf2_setL {α β : Type} {R : α → β → Prop} {a : α} {b : β} (hr : R a b) : ∀ {as : List α} {bs : List β}, zf2 R as bs → ∀ {i : Nat}, bs[i]? = some b → zf2 R (as.set i a) bs
  | [], [], _, _, _ => trivial
  | _ :: as, c :: bs, h, 0, hb => by
    have : c = b := by simpa using hb
    subst this
    exact ⟨hr, h.2⟩
  | _ :: as, _ :: bs, h, i + 1, hb => ⟨h.1, zf2_setL hr (as := as) (bs := bs) h.2 (i := i) (by simpa using hb)⟩
/-- the number that a value is -/
def numV : Value → Option Int
  | .int x => some x.toInt
  | .long x => some x.toInt
  | _ => none
theorem setG_ok {G : GI} {g : List Int} {V : EV} {a : AV} {v : Value} {q : Int × Int} {z : Int} (hG : GS G g) (ha : gam g V a v) (hz : numV v = some z) (hq : inI q z) : GS (setG G a q) g := by
  obtain ⟨t, b, c⟩ := a
  unfold setG
  split
  · rename_i ht; simp only at ht; subst ht
    obtain ⟨x, h1, w, h2, h3⟩ := ha
    subst h1
    cases hz
    unfold inI at hq
    exact zf2_setL (b := w) (by unfold inI; simp only at h3 ⊢; omega) hG h2
  · rename_i ht; simp only at ht; subst ht
    obtain ⟨x, h1, w, h2, h3⟩ := ha
    subst h1
    cases hz
    unfold inI at hq
    exact zf2_setL (b := w) (by unfold inI; simp only at h3 ⊢; omega) hG h2
  · exact hG
def rfC (k : Nat) (G : GI) (a b : AV) (p q : Int × Int) : List GI := if (cutR k p q).1.1 ≤ (cutR k p q).1.2 ∧ (cutR k p q).2.1 ≤ (cutR k p q).2.2 then [setG (setG G a (cutR k p q).1) b (cutR k p q).2] else []
theorem rfC_ok {k : Nat} {G : GI} {g : List Int} {V : EV} {a b : AV} {v w : Value} {p q : Int × Int} {x y : Int} (hG : GS G g) (ha : gam g V a v) (hb : gam g V b w) (hx : numV v = some x) (hy : numV w = some y) (hp : inI p x) (hq : inI q y) (h : cmpH k x y) : ∃ G' ∈ rfC k G a b p q, GS G' g := by
  have hc := cutR_ok hp hq h
  unfold rfC
  have h1 := hc.1
  have h2 := hc.2
  unfold inI at h1 h2
  rw [if_pos ⟨by omega, by omega⟩]
  exact ⟨_, List.mem_singleton.mpr rfl, setG_ok (setG_ok hG ha hx hc.1) hb hy hc.2⟩
/-- unlike: less or more -/
def rfX (k : Nat) (G : GI) (a b : AV) (p q : Int × Int) : List GI := if k = 1 then (if p.1 = p.2 ∨ q.1 = q.2 then rfC 2 G a b p q ++ rfC 4 G a b p q else [G]) else rfC k G a b p q
theorem rfX_ok {k : Nat} {G : GI} {g : List Int} {V : EV} {a b : AV} {v w : Value} {p q : Int × Int} {x y : Int} (hG : GS G g) (ha : gam g V a v) (hb : gam g V b w) (hx : numV v = some x) (hy : numV w = some y) (hp : inI p x) (hq : inI q y) (h : cmpH k x y) : ∃ G' ∈ rfX k G a b p q, GS G' g := by
  unfold rfX
  split
  · rename_i hk
    subst hk
    split
    · have h : x ≠ y := h
      rcases (show x < y ∨ y < x by omega) with h | h
      · obtain ⟨G', h1, h2⟩ := rfC_ok (k := 2) hG ha hb hx hy hp hq h
        exact ⟨G', List.mem_append_left _ h1, h2⟩
      · obtain ⟨G', h1, h2⟩ := rfC_ok (k := 4) hG ha hb hx hy hp hq h
        exact ⟨G', List.mem_append_right _ h1, h2⟩
    · exact ⟨G, List.mem_singleton.mpr rfl, hG⟩
  · exact rfC_ok hG ha hb hx hy hp hq h
def rfI (k : Nat) (G : GI) (a b : AV) : Option (List GI) :=
  match ivI G a, ivI G b with
  | some p, some q => some (rfX k G a b p q)
  | _, _ => none
def rfL (k : Nat) (G : GI) (a b : AV) : Option (List GI) :=
  match ivL G a, ivL G b with
  | some p, some q => some (rfX k G a b p q)
  | _, _ => none
theorem rfI_ok {k : Nat} {G : GI} {g : List Int} {V : EV} {a b : AV} {v w : Value} {L : List GI} (hG : GS G g) (ha : gam g V a v) (hb : gam g V b w) (hL : rfI k G a b = some L) : ∃ x y : Int32, v = .int x ∧ w = .int y ∧ (cmpH k x.toInt y.toInt → ∃ G' ∈ L, GS G' g) := by
  unfold rfI at hL
  split at hL
  · rename_i p q hp hq
    obtain ⟨x, e1, h1⟩ := ivI_ok hG ha hp
    obtain ⟨y, e2, h2⟩ := ivI_ok hG hb hq
    cases hL
    subst e1; subst e2
    exact ⟨x, y, rfl, rfl, fun h => rfX_ok hG ha hb rfl rfl h1 h2 h⟩
  · cases hL
theorem rfL_ok {k : Nat} {G : GI} {g : List Int} {V : EV} {a b : AV} {v w : Value} {L : List GI} (hG : GS G g) (ha : gam g V a v) (hb : gam g V b w) (hL : rfL k G a b = some L) : ∃ x y : Int64, v = .long x ∧ w = .long y ∧ (cmpH k x.toInt y.toInt → ∃ G' ∈ L, GS G' g) := by
  unfold rfL at hL
  split at hL
  · rename_i p q hp hq
    obtain ⟨x, e1, h1⟩ := ivL_ok hG ha hp
    obtain ⟨y, e2, h2⟩ := ivL_ok hG hb hq
    cases hL
    subst e1; subst e2
    exact ⟨x, y, rfl, rfl, fun h => rfX_ok hG ha hb rfl rfl h1 h2 h⟩
  · cases hL
end
section
def RX0 : String := "RookHusting$Acts"
def TX0 : u_T := fun k => match k with
  | 0 => ("RookHusting$Acts", "size", "I", false)
  | 1 => ("RookHusting$Acts", "kinds", "[I", true)
  | 2 => ("RookHusting$Acts", "fields", "[I", true)
  | _ => ("RookHusting$Acts", "values", "[I", true)
def tyX0 : Nat → FieldType := fun k => match k with
  | 0 => .int
  | 1 => .array .int
  | 2 => .array .int
  | _ => .array .int
theorem nmX0 : ∀ a, a < 4 → ∀ b, b < 4 → a ≠ b → (TX0 a).2.1 ≠ (TX0 b).2.1 := by decide +kernel
theorem tyX0_ok : ∀ k, k < 4 → parseFieldDescriptor (TX0 k).2.2.1 = some (tyX0 k) := by decide +kernel
abbrev cX0_init : ByteArray := prog_2_method_1_code
def yX0_init : MethodName := ⟨RX0, "<init>", "()V"⟩
abbrev cX0_add : ByteArray := prog_2_method_2_code
def yX0_add : MethodName := ⟨RX0, "add", "(III)V"⟩
abbrev cX0_playOn : ByteArray := prog_2_method_3_code
def yX0_playOn : MethodName := ⟨RX0, "playOn", "(LRookHusting$Scene;Z)V"⟩
abbrev cX0_copyFrom : ByteArray := prog_2_method_4_code
def yX0_copyFrom : MethodName := ⟨RX0, "copyFrom", "(LRookHusting$Acts;)V"⟩
def RX1 : String := "RookHusting$Election"
def TX1 : u_T := fun k => match k with
  | 0 => ("RookHusting$Election", "told", "LRookHusting$Hundred;", true)
  | _ => ("RookHusting$Election", "feigned", "[I", true)
def tyX1 : Nat → FieldType := fun k => match k with
  | 0 => .object "RookHusting$Hundred"
  | _ => .array .int
theorem nmX1 : ∀ a, a < 2 → ∀ b, b < 2 → a ≠ b → (TX1 a).2.1 ≠ (TX1 b).2.1 := by decide +kernel
theorem tyX1_ok : ∀ k, k < 2 → parseFieldDescriptor (TX1 k).2.2.1 = some (tyX1 k) := by decide +kernel
abbrev cX1_init : ByteArray := prog_3_method_1_code
def yX1_init : MethodName := ⟨RX1, "<init>", "(LRookHusting$Hundred;)V"⟩
abbrev cX1_hatsFor : ByteArray := prog_3_method_2_code
def yX1_hatsFor : MethodName := ⟨RX1, "hatsFor", "([IIIII)I"⟩
abbrev cX1_winner : ByteArray := prog_3_method_3_code
def yX1_winner : MethodName := ⟨RX1, "winner", "([IIII)I"⟩
abbrev cX1_firstOfMost : ByteArray := prog_3_method_4_code
def yX1_firstOfMost : MethodName := ⟨RX1, "firstOfMost", "([IIII)I"⟩
abbrev cX1_lastOfFewest : ByteArray := prog_3_method_5_code
def yX1_lastOfFewest : MethodName := ⟨RX1, "lastOfFewest", "([III)I"⟩
abbrev cX1_allMen : ByteArray := prog_3_method_6_code
def yX1_allMen : MethodName := ⟨RX1, "allMen", "()I"⟩
abbrev cX1_winnerOfAll : ByteArray := prog_3_method_7_code
def yX1_winnerOfAll : MethodName := ⟨RX1, "winnerOfAll", "(I)I"⟩
abbrev cX1_fillFields : ByteArray := prog_3_method_8_code
def yX1_fillFields : MethodName := ⟨RX1, "fillFields", "([II)V"⟩
abbrev cX1_isWantedMore : ByteArray := prog_3_method_9_code
def yX1_isWantedMore : MethodName := ⟨RX1, "isWantedMore", "(III)Z"⟩
abbrev cX1_hatsOver : ByteArray := prog_3_method_10_code
def yX1_hatsOver : MethodName := ⟨RX1, "hatsOver", "(II)I"⟩
abbrev cX1_isOver : ByteArray := prog_3_method_11_code
def yX1_isOver : MethodName := ⟨RX1, "isOver", "(II)Z"⟩
abbrev cX1_manOverAll : ByteArray := prog_3_method_12_code
def yX1_manOverAll : MethodName := ⟨RX1, "manOverAll", "()I"⟩
abbrev cX1_countRings : ByteArray := prog_3_method_13_code
def yX1_countRings : MethodName := ⟨RX1, "countRings", "()I"⟩
abbrev cX1_isRing : ByteArray := prog_3_method_14_code
def yX1_isRing : MethodName := ⟨RX1, "isRing", "(III)Z"⟩
abbrev cX1_hatsOf : ByteArray := prog_3_method_15_code
def yX1_hatsOf : MethodName := ⟨RX1, "hatsOf", "(I)I"⟩
abbrev cX1_fewestAway : ByteArray := prog_3_method_16_code
def yX1_fewestAway : MethodName := ⟨RX1, "fewestAway", "(I)I"⟩
abbrev cX1_isGainer : ByteArray := prog_3_method_17_code
def yX1_isGainer : MethodName := ⟨RX1, "isGainer", "(I)Z"⟩
abbrev cX1_gainsBehind : ByteArray := prog_3_method_18_code
def yX1_gainsBehind : MethodName := ⟨RX1, "gainsBehind", "(IIII)Z"⟩
abbrev cX1_ordersDecided : ByteArray := prog_3_method_19_code
def yX1_ordersDecided : MethodName := ⟨RX1, "ordersDecided", "(I)I"⟩
abbrev cX1_hatsFirst : ByteArray := prog_3_method_20_code
def yX1_hatsFirst : MethodName := ⟨RX1, "hatsFirst", "(I)I"⟩
abbrev cX1_hatsWithout : ByteArray := prog_3_method_21_code
def yX1_hatsWithout : MethodName := ⟨RX1, "hatsWithout", "(I)I"⟩
abbrev cX1_swingVoters : ByteArray := prog_3_method_22_code
def yX1_swingVoters : MethodName := ⟨RX1, "swingVoters", "()I"⟩
def RX2 : String := "RookHusting$Guesses"
def TX2 : u_T := fun k => match k with
  | 0 => ("RookHusting$Guesses", "fitting", "I", false)
  | 1 => ("RookHusting$Guesses", "question", "I", false)
  | 2 => ("RookHusting$Guesses", "left", "I", false)
  | _ => ("RookHusting$Guesses", "rooks", "[I", true)
def tyX2 : Nat → FieldType := fun k => match k with
  | 0 => .int
  | 1 => .int
  | 2 => .int
  | _ => .array .int
theorem nmX2 : ∀ a, a < 4 → ∀ b, b < 4 → a ≠ b → (TX2 a).2.1 ≠ (TX2 b).2.1 := by decide +kernel
theorem tyX2_ok : ∀ k, k < 4 → parseFieldDescriptor (TX2 k).2.2.1 = some (tyX2 k) := by decide +kernel
abbrev cX2_init : ByteArray := prog_4_method_1_code
def yX2_init : MethodName := ⟨RX2, "<init>", "()V"⟩
abbrev cX2_keep : ByteArray := prog_4_method_2_code
def yX2_keep : MethodName := ⟨RX2, "keep", "(I[I)V"⟩
abbrev cX2_findQuestion : ByteArray := prog_4_method_3_code
def yX2_findQuestion : MethodName := ⟨RX2, "findQuestion", "(II)V"⟩
abbrev cX2_mostAlike : ByteArray := prog_4_method_4_code
def yX2_mostAlike : MethodName := ⟨RX2, "mostAlike", "(I)I"⟩
abbrev cX2_countAlike : ByteArray := prog_4_method_5_code
def yX2_countAlike : MethodName := ⟨RX2, "countAlike", "(II)I"⟩
def RX3 : String := "RookHusting$Harvest"
def TX3 : u_T := fun k => match k with
  | 0 => ("RookHusting$Harvest", "fear", "[I", true)
  | 1 => ("RookHusting$Harvest", "rooks", "[I", true)
  | 2 => ("RookHusting$Harvest", "corn", "[I", true)
  | 3 => ("RookHusting$Harvest", "eaten", "[I", true)
  | 4 => ("RookHusting$Harvest", "flown", "[I", true)
  | 5 => ("RookHusting$Harvest", "goal", "[I", true)
  | 6 => ("RookHusting$Harvest", "since", "[I", true)
  | 7 => ("RookHusting$Harvest", "fields", "I", false)
  | _ => ("RookHusting$Harvest", "lastDay", "I", false)
def tyX3 : Nat → FieldType := fun k => match k with
  | 0 => .array .int
  | 1 => .array .int
  | 2 => .array .int
  | 3 => .array .int
  | 4 => .array .int
  | 5 => .array .int
  | 6 => .array .int
  | 7 => .int
  | _ => .int
theorem nmX3 : ∀ a, a < 9 → ∀ b, b < 9 → a ≠ b → (TX3 a).2.1 ≠ (TX3 b).2.1 := by decide +kernel
theorem tyX3_ok : ∀ k, k < 9 → parseFieldDescriptor (TX3 k).2.2.1 = some (tyX3 k) := by decide +kernel
abbrev cX3_init : ByteArray := prog_5_method_1_code
def yX3_init : MethodName := ⟨RX3, "<init>", "()V"⟩
abbrev cX3_passDays : ByteArray := prog_5_method_2_code
def yX3_passDays : MethodName := ⟨RX3, "passDays", "(LRookHusting$Hundred;LRookHusting$Scene;I)V"⟩
abbrev cX3_frighten : ByteArray := prog_5_method_3_code
def yX3_frighten : MethodName := ⟨RX3, "frighten", "(LRookHusting$Hundred;LRookHusting$Scene;I)V"⟩
abbrev cX3_beginNextDay : ByteArray := prog_5_method_4_code
def yX3_beginNextDay : MethodName := ⟨RX3, "beginNextDay", "(I)V"⟩
abbrev cX3_eatAndFly : ByteArray := prog_5_method_5_code
def yX3_eatAndFly : MethodName := ⟨RX3, "eatAndFly", "(LRookHusting$Scene;I)V"⟩
abbrev cX3_leastFeared : ByteArray := prog_5_method_6_code
def yX3_leastFeared : MethodName := ⟨RX3, "leastFeared", "(II)I"⟩
abbrev cX3_sumOf : ByteArray := prog_5_method_7_code
def yX3_sumOf : MethodName := ⟨RX3, "sumOf", "([II)I"⟩
abbrev cX3_fieldOfMost : ByteArray := prog_5_method_8_code
def yX3_fieldOfMost : MethodName := ⟨RX3, "fieldOfMost", "([II)I"⟩
abbrev cX3_firstZero : ByteArray := prog_5_method_9_code
def yX3_firstZero : MethodName := ⟨RX3, "firstZero", "([II)I"⟩
abbrev cX3_daysEaten : ByteArray := prog_5_method_10_code
def yX3_daysEaten : MethodName := ⟨RX3, "daysEaten", "(I)I"⟩
abbrev cX3_mostRooks : ByteArray := prog_5_method_11_code
def yX3_mostRooks : MethodName := ⟨RX3, "mostRooks", "(I)I"⟩
def RX4 : String := "RookHusting$Hundred"
def TX4 : u_T := fun k => match k with
  | 0 => ("RookHusting$Hundred", "lines", "I", false)
  | 1 => ("RookHusting$Hundred", "days", "I", false)
  | 2 => ("RookHusting$Hundred", "law", "I", false)
  | 3 => ("RookHusting$Hundred", "odds", "I", false)
  | 4 => ("RookHusting$Hundred", "fields", "I", false)
  | 5 => ("RookHusting$Hundred", "hedges", "I", false)
  | 6 => ("RookHusting$Hundred", "men", "I", false)
  | 7 => ("RookHusting$Hundred", "voters", "I", false)
  | 8 => ("RookHusting$Hundred", "corn", "[I", true)
  | 9 => ("RookHusting$Hundred", "rooks", "[I", true)
  | 10 => ("RookHusting$Hundred", "joined", "[I", true)
  | 11 => ("RookHusting$Hundred", "frights", "[I", true)
  | 12 => ("RookHusting$Hundred", "tires", "[I", true)
  | 13 => ("RookHusting$Hundred", "hats", "[I", true)
  | 14 => ("RookHusting$Hundred", "rowLength", "[I", true)
  | 15 => ("RookHusting$Hundred", "rows", "[I", true)
  | _ => ("RookHusting$Hundred", "ahead", "[I", true)
def tyX4 : Nat → FieldType := fun k => match k with
  | 0 => .int
  | 1 => .int
  | 2 => .int
  | 3 => .int
  | 4 => .int
  | 5 => .int
  | 6 => .int
  | 7 => .int
  | 8 => .array .int
  | 9 => .array .int
  | 10 => .array .int
  | 11 => .array .int
  | 12 => .array .int
  | 13 => .array .int
  | 14 => .array .int
  | 15 => .array .int
  | _ => .array .int
theorem nmX4 : ∀ a, a < 17 → ∀ b, b < 17 → a ≠ b → (TX4 a).2.1 ≠ (TX4 b).2.1 := by decide +kernel
theorem tyX4_ok : ∀ k, k < 17 → parseFieldDescriptor (TX4 k).2.2.1 = some (tyX4 k) := by decide +kernel
abbrev cX4_init : ByteArray := prog_6_method_1_code
def yX4_init : MethodName := ⟨RX4, "<init>", "()V"⟩
abbrev cX4_clear : ByteArray := prog_6_method_2_code
def yX4_clear : MethodName := ⟨RX4, "clear", "()V"⟩
abbrev cX4_addField : ByteArray := prog_6_method_3_code
def yX4_addField : MethodName := ⟨RX4, "addField", "(II)V"⟩
abbrev cX4_addHedge : ByteArray := prog_6_method_4_code
def yX4_addHedge : MethodName := ⟨RX4, "addHedge", "(II)V"⟩
abbrev cX4_addMan : ByteArray := prog_6_method_5_code
def yX4_addMan : MethodName := ⟨RX4, "addMan", "(II)V"⟩
abbrev cX4_addVoter : ByteArray := prog_6_method_6_code
def yX4_addVoter : MethodName := ⟨RX4, "addVoter", "(I)V"⟩
abbrev cX4_addWant : ByteArray := prog_6_method_7_code
def yX4_addWant : MethodName := ⟨RX4, "addWant", "(I)V"⟩
abbrev cX4_copyFrom : ByteArray := prog_6_method_8_code
def yX4_copyFrom : MethodName := ⟨RX4, "copyFrom", "(LRookHusting$Hundred;)V"⟩
def RX5 : String := "RookHusting$PutSearch"
def TX5 : u_T := fun k => match k with
  | 0 => ("RookHusting$PutSearch", "first", "[I", true)
  | 1 => ("RookHusting$PutSearch", "corn", "I", false)
  | 2 => ("RookHusting$PutSearch", "rows", "I", false)
  | 3 => ("RookHusting$PutSearch", "men", "I", false)
  | 4 => ("RookHusting$PutSearch", "known", "Z", false)
  | 5 => ("RookHusting$PutSearch", "told", "LRookHusting$Hundred;", true)
  | 6 => ("RookHusting$PutSearch", "trial", "LRookHusting$Scene;", true)
  | _ => ("RookHusting$PutSearch", "tried", "LRookHusting$Harvest;", true)
def tyX5 : Nat → FieldType := fun k => match k with
  | 0 => .array .int
  | 1 => .int
  | 2 => .int
  | 3 => .int
  | 4 => .boolean
  | 5 => .object "RookHusting$Hundred"
  | 6 => .object "RookHusting$Scene"
  | _ => .object "RookHusting$Harvest"
theorem nmX5 : ∀ a, a < 8 → ∀ b, b < 8 → a ≠ b → (TX5 a).2.1 ≠ (TX5 b).2.1 := by decide +kernel
theorem tyX5_ok : ∀ k, k < 8 → parseFieldDescriptor (TX5 k).2.2.1 = some (tyX5 k) := by decide +kernel
abbrev cX5_init : ByteArray := prog_7_method_1_code
def yX5_init : MethodName := ⟨RX5, "<init>", "(LRookHusting$Hundred;LRookHusting$Scene;LRookHusting$Harvest;)V"⟩
abbrev cX5_searchFrom : ByteArray := prog_7_method_2_code
def yX5_searchFrom : MethodName := ⟨RX5, "searchFrom", "(LRookHusting$Scene;)V"⟩
abbrev cX5_fillFrom : ByteArray := prog_7_method_3_code
def yX5_fillFrom : MethodName := ⟨RX5, "fillFrom", "(II)V"⟩
abbrev cX5_weighRow : ByteArray := prog_7_method_4_code
def yX5_weighRow : MethodName := ⟨RX5, "weighRow", "(I)V"⟩
def RX6 : String := "RookHusting$Reader"
def TX6 : u_T := fun k => match k with
  | 0 => ("RookHusting$Reader", "draft", "LRookHusting$Hundred;", true)
  | 1 => ("RookHusting$Reader", "fault", "I", false)
  | 2 => ("RookHusting$Reader", "place", "I", false)
  | _ => ("RookHusting$Reader", "tape", "LRookHusting$Tape;", true)
def tyX6 : Nat → FieldType := fun k => match k with
  | 0 => .object "RookHusting$Hundred"
  | 1 => .int
  | 2 => .int
  | _ => .object "RookHusting$Tape"
theorem nmX6 : ∀ a, a < 4 → ∀ b, b < 4 → a ≠ b → (TX6 a).2.1 ≠ (TX6 b).2.1 := by decide +kernel
theorem tyX6_ok : ∀ k, k < 4 → parseFieldDescriptor (TX6 k).2.2.1 = some (tyX6 k) := by decide +kernel
abbrev cX6_init : ByteArray := prog_8_method_1_code
def yX6_init : MethodName := ⟨RX6, "<init>", "(LRookHusting$Tape;)V"⟩
abbrev cX6_begin : ByteArray := prog_8_method_2_code
def yX6_begin : MethodName := ⟨RX6, "begin", "()V"⟩
abbrev cX6_hasMore : ByteArray := prog_8_method_3_code
def yX6_hasMore : MethodName := ⟨RX6, "hasMore", "()Z"⟩
abbrev cX6_readLine : ByteArray := prog_8_method_4_code
def yX6_readLine : MethodName := ⟨RX6, "readLine", "()V"⟩
abbrev cX6_readHead : ByteArray := prog_8_method_5_code
def yX6_readHead : MethodName := ⟨RX6, "readHead", "()V"⟩
abbrev cX6_readField : ByteArray := prog_8_method_6_code
def yX6_readField : MethodName := ⟨RX6, "readField", "()V"⟩
abbrev cX6_readHedge : ByteArray := prog_8_method_7_code
def yX6_readHedge : MethodName := ⟨RX6, "readHedge", "()V"⟩
abbrev cX6_readMan : ByteArray := prog_8_method_8_code
def yX6_readMan : MethodName := ⟨RX6, "readMan", "()V"⟩
abbrev cX6_readVoter : ByteArray := prog_8_method_9_code
def yX6_readVoter : MethodName := ⟨RX6, "readVoter", "()V"⟩
abbrev cX6_takeWord : ByteArray := prog_8_method_10_code
def yX6_takeWord : MethodName := ⟨RX6, "takeWord", "(Ljava/lang/String;)V"⟩
abbrev cX6_takeSign : ByteArray := prog_8_method_11_code
def yX6_takeSign : MethodName := ⟨RX6, "takeSign", "()V"⟩
abbrev cX6_takeNamed : ByteArray := prog_8_method_12_code
def yX6_takeNamed : MethodName := ⟨RX6, "takeNamed", "(Ljava/lang/String;II)I"⟩
abbrev cX6_takeNumber : ByteArray := prog_8_method_13_code
def yX6_takeNumber : MethodName := ⟨RX6, "takeNumber", "(III)I"⟩
abbrev cX6_blame : ByteArray := prog_8_method_14_code
def yX6_blame : MethodName := ⟨RX6, "blame", "(I)V"⟩
def RX7 : String := "RookHusting$Scene"
def TX7 : u_T := fun k => match k with
  | 0 => ("RookHusting$Scene", "standing", "[I", true)
  | 1 => ("RookHusting$Scene", "speeches", "[I", true)
  | 2 => ("RookHusting$Scene", "joined", "[I", true)
  | _ => ("RookHusting$Scene", "wind", "I", false)
def tyX7 : Nat → FieldType := fun k => match k with
  | 0 => .array .int
  | 1 => .array .int
  | 2 => .array .int
  | _ => .int
theorem nmX7 : ∀ a, a < 4 → ∀ b, b < 4 → a ≠ b → (TX7 a).2.1 ≠ (TX7 b).2.1 := by decide +kernel
theorem tyX7_ok : ∀ k, k < 4 → parseFieldDescriptor (TX7 k).2.2.1 = some (tyX7 k) := by decide +kernel
abbrev cX7_init : ByteArray := prog_9_method_1_code
def yX7_init : MethodName := ⟨RX7, "<init>", "()V"⟩
abbrev cX7_begin : ByteArray := prog_9_method_2_code
def yX7_begin : MethodName := ⟨RX7, "begin", "(LRookHusting$Hundred;)V"⟩
abbrev cX7_copyFrom : ByteArray := prog_9_method_3_code
def yX7_copyFrom : MethodName := ⟨RX7, "copyFrom", "(LRookHusting$Scene;)V"⟩
abbrev cX7_placeOf : ByteArray := prog_9_method_4_code
def yX7_placeOf : MethodName := ⟨RX7, "placeOf", "(I)I"⟩
abbrev cX7_placeMan : ByteArray := prog_9_method_5_code
def yX7_placeMan : MethodName := ⟨RX7, "placeMan", "(II)V"⟩
def RX8 : String := "RookHusting$Slots"
def TX8 : u_T := fun k => match k with
  | 0 => ("RookHusting$Slots", "numbers", "[J", true)
  | 1 => ("RookHusting$Slots", "widths", "[I", true)
  | _ => ("RookHusting$Slots", "lengths", "[I", true)
def tyX8 : Nat → FieldType := fun k => match k with
  | 0 => .array .long
  | 1 => .array .int
  | _ => .array .int
theorem nmX8 : ∀ a, a < 3 → ∀ b, b < 3 → a ≠ b → (TX8 a).2.1 ≠ (TX8 b).2.1 := by decide +kernel
theorem tyX8_ok : ∀ k, k < 3 → parseFieldDescriptor (TX8 k).2.2.1 = some (tyX8 k) := by decide +kernel
abbrev cX8_init : ByteArray := prog_10_method_1_code
def yX8_init : MethodName := ⟨RX8, "<init>", "()V"⟩
abbrev cX8_isSlot : ByteArray := prog_10_method_2_code
def yX8_isSlot : MethodName := ⟨RX8, "isSlot", "(I)Z"⟩
abbrev cX8_hasRow : ByteArray := prog_10_method_3_code
def yX8_hasRow : MethodName := ⟨RX8, "hasRow", "(I)Z"⟩
abbrev cX8_countRows : ByteArray := prog_10_method_4_code
def yX8_countRows : MethodName := ⟨RX8, "countRows", "()I"⟩
abbrev cX8_renew : ByteArray := prog_10_method_5_code
def yX8_renew : MethodName := ⟨RX8, "renew", "(III)V"⟩
abbrev cX8_at : ByteArray := prog_10_method_6_code
def yX8_at : MethodName := ⟨RX8, "at", "(II)J"⟩
abbrev cX8_set : ByteArray := prog_10_method_7_code
def yX8_set : MethodName := ⟨RX8, "set", "(IIJ)V"⟩
abbrev cX8_cut : ByteArray := prog_10_method_8_code
def yX8_cut : MethodName := ⟨RX8, "cut", "(JI)J"⟩
abbrev cX8_holds : ByteArray := prog_10_method_9_code
def yX8_holds : MethodName := ⟨RX8, "holds", "(III)Z"⟩
def RX9 : String := "RookHusting$State"
def TX9 : u_T := fun k => match k with
  | 0 => ("RookHusting$State", "told", "LRookHusting$Hundred;", true)
  | _ => ("RookHusting$State", "acts", "LRookHusting$Acts;", true)
def tyX9 : Nat → FieldType := fun k => match k with
  | 0 => .object "RookHusting$Hundred"
  | _ => .object "RookHusting$Acts"
theorem nmX9 : ∀ a, a < 2 → ∀ b, b < 2 → a ≠ b → (TX9 a).2.1 ≠ (TX9 b).2.1 := by decide +kernel
theorem tyX9_ok : ∀ k, k < 2 → parseFieldDescriptor (TX9 k).2.2.1 = some (tyX9 k) := by decide +kernel
abbrev cX9_init : ByteArray := prog_11_method_1_code
def yX9_init : MethodName := ⟨RX9, "<init>", "()V"⟩
abbrev cX9_copyFrom : ByteArray := prog_11_method_2_code
def yX9_copyFrom : MethodName := ⟨RX9, "copyFrom", "(LRookHusting$State;)V"⟩
def RX10 : String := "RookHusting$Tape"
def TX10 : u_T := fun k => match k with
  | 0 => ("RookHusting$Tape", "bytes", "[B", true)
  | 1 => ("RookHusting$Tape", "length", "I", false)
  | 2 => ("RookHusting$Tape", "kind", "I", false)
  | 3 => ("RookHusting$Tape", "start", "I", false)
  | 4 => ("RookHusting$Tape", "number", "I", false)
  | _ => ("RookHusting$Tape", "at", "I", false)
def tyX10 : Nat → FieldType := fun k => match k with
  | 0 => .array .byte
  | 1 => .int
  | 2 => .int
  | 3 => .int
  | 4 => .int
  | _ => .int
theorem nmX10 : ∀ a, a < 6 → ∀ b, b < 6 → a ≠ b → (TX10 a).2.1 ≠ (TX10 b).2.1 := by decide +kernel
theorem tyX10_ok : ∀ k, k < 6 → parseFieldDescriptor (TX10 k).2.2.1 = some (tyX10 k) := by decide +kernel
abbrev cX10_init : ByteArray := prog_12_method_1_code
def yX10_init : MethodName := ⟨RX10, "<init>", "()V"⟩
abbrev cX10_append : ByteArray := prog_12_method_2_code
def yX10_append : MethodName := ⟨RX10, "append", "(I)V"⟩
abbrev cX10_rewind : ByteArray := prog_12_method_3_code
def yX10_rewind : MethodName := ⟨RX10, "rewind", "()V"⟩
abbrev cX10_step : ByteArray := prog_12_method_4_code
def yX10_step : MethodName := ⟨RX10, "step", "()V"⟩
abbrev cX10_isAtWord : ByteArray := prog_12_method_5_code
def yX10_isAtWord : MethodName := ⟨RX10, "isAtWord", "(Ljava/lang/String;)Z"⟩
abbrev cX10_isBlank : ByteArray := prog_12_method_6_code
def yX10_isBlank : MethodName := ⟨RX10, "isBlank", "(B)Z"⟩
abbrev cX10_isLetter : ByteArray := prog_12_method_7_code
def yX10_isLetter : MethodName := ⟨RX10, "isLetter", "(B)Z"⟩
abbrev cX10_isDigit : ByteArray := prog_12_method_8_code
def yX10_isDigit : MethodName := ⟨RX10, "isDigit", "(B)Z"⟩
def RX11 : String := "RookHusting"
def TX11 : u_T := fun k => match k with
  | 0 => ("RookHusting", "tape", "LRookHusting$Tape;", true)
  | 1 => ("RookHusting", "reader", "LRookHusting$Reader;", true)
  | 2 => ("RookHusting", "state", "LRookHusting$State;", true)
  | 3 => ("RookHusting", "images", "[LRookHusting$State;", true)
  | 4 => ("RookHusting", "slots", "LRookHusting$Slots;", true)
  | 5 => ("RookHusting", "election", "LRookHusting$Election;", true)
  | 6 => ("RookHusting", "now", "LRookHusting$Scene;", true)
  | 7 => ("RookHusting", "trial", "LRookHusting$Scene;", true)
  | 8 => ("RookHusting", "harvest", "LRookHusting$Harvest;", true)
  | 9 => ("RookHusting", "tried", "LRookHusting$Harvest;", true)
  | 10 => ("RookHusting", "search", "LRookHusting$PutSearch;", true)
  | 11 => ("RookHusting", "guesses", "LRookHusting$Guesses;", true)
  | 12 => ("RookHusting", "keptImages", "I", false)
  | 13 => ("RookHusting", "settled", "Z", false)
  | 14 => ("RookHusting", "plainKnown", "Z", false)
  | _ => ("RookHusting", "plainVoters", "I", false)
def tyX11 : Nat → FieldType := fun k => match k with
  | 0 => .object "RookHusting$Tape"
  | 1 => .object "RookHusting$Reader"
  | 2 => .object "RookHusting$State"
  | 3 => .array (.object "RookHusting$State")
  | 4 => .object "RookHusting$Slots"
  | 5 => .object "RookHusting$Election"
  | 6 => .object "RookHusting$Scene"
  | 7 => .object "RookHusting$Scene"
  | 8 => .object "RookHusting$Harvest"
  | 9 => .object "RookHusting$Harvest"
  | 10 => .object "RookHusting$PutSearch"
  | 11 => .object "RookHusting$Guesses"
  | 12 => .int
  | 13 => .boolean
  | 14 => .boolean
  | _ => .int
theorem nmX11 : ∀ a, a < 16 → ∀ b, b < 16 → a ≠ b → (TX11 a).2.1 ≠ (TX11 b).2.1 := by decide +kernel
theorem tyX11_ok : ∀ k, k < 16 → parseFieldDescriptor (TX11 k).2.2.1 = some (tyX11 k) := by decide +kernel
abbrev cX11_init : ByteArray := prog_1_method_1_code
def yX11_init : MethodName := ⟨RX11, "<init>", "()V"⟩
abbrev cX11_feed : ByteArray := prog_1_method_2_code
def yX11_feed : MethodName := ⟨RX11, "feed", "(IIIII)I"⟩
abbrev cX11_end : ByteArray := prog_1_method_3_code
def yX11_end : MethodName := ⟨RX11, "end", "(I)I"⟩
abbrev cX11_hundred : ByteArray := prog_1_method_4_code
def yX11_hundred : MethodName := ⟨RX11, "hundred", "()I"⟩
abbrev cX11_fault : ByteArray := prog_1_method_5_code
def yX11_fault : MethodName := ⟨RX11, "fault", "(I)I"⟩
abbrev cX11_field : ByteArray := prog_1_method_6_code
def yX11_field : MethodName := ⟨RX11, "field", "(II)I"⟩
abbrev cX11_hedges : ByteArray := prog_1_method_7_code
def yX11_hedges : MethodName := ⟨RX11, "hedges", "(I)I"⟩
abbrev cX11_man : ByteArray := prog_1_method_8_code
def yX11_man : MethodName := ⟨RX11, "man", "(II)I"⟩
abbrev cX11_hats : ByteArray := prog_1_method_9_code
def yX11_hats : MethodName := ⟨RX11, "hats", "(I)I"⟩
abbrev cX11_wants : ByteArray := prog_1_method_10_code
def yX11_wants : MethodName := ⟨RX11, "wants", "(II)I"⟩
abbrev cX11_votes : ByteArray := prog_1_method_11_code
def yX11_votes : MethodName := ⟨RX11, "votes", "(III)I"⟩
abbrev cX11_elects : ByteArray := prog_1_method_12_code
def yX11_elects : MethodName := ⟨RX11, "elects", "(II)I"⟩
abbrev cX11_elected : ByteArray := prog_1_method_13_code
def yX11_elected : MethodName := ⟨RX11, "elected", "(I)I"⟩
abbrev cX11_stands : ByteArray := prog_1_method_14_code
def yX11_stands : MethodName := ⟨RX11, "stands", "(I)I"⟩
abbrev cX11_where : ByteArray := prog_1_method_15_code
def yX11_where : MethodName := ⟨RX11, "where", "(I)I"⟩
abbrev cX11_over : ByteArray := prog_1_method_16_code
def yX11_over : MethodName := ⟨RX11, "over", "(II)I"⟩
abbrev cX11_beats : ByteArray := prog_1_method_17_code
def yX11_beats : MethodName := ⟨RX11, "beats", "()I"⟩
abbrev cX11_rings : ByteArray := prog_1_method_18_code
def yX11_rings : MethodName := ⟨RX11, "rings", "()I"⟩
abbrev cX11_least : ByteArray := prog_1_method_19_code
def yX11_least : MethodName := ⟨RX11, "least", "(I)I"⟩
abbrev cX11_gains : ByteArray := prog_1_method_20_code
def yX11_gains : MethodName := ⟨RX11, "gains", "(I)I"⟩
abbrev cX11_plain : ByteArray := prog_1_method_21_code
def yX11_plain : MethodName := ⟨RX11, "plain", "()I"⟩
abbrev cX11_power : ByteArray := prog_1_method_22_code
def yX11_power : MethodName := ⟨RX11, "power", "(II)I"⟩
abbrev cX11_loved : ByteArray := prog_1_method_23_code
def yX11_loved : MethodName := ⟨RX11, "loved", "(I)I"⟩
abbrev cX11_shunned : ByteArray := prog_1_method_24_code
def yX11_shunned : MethodName := ⟨RX11, "shunned", "(I)I"⟩
abbrev cX11_swings : ByteArray := prog_1_method_25_code
def yX11_swings : MethodName := ⟨RX11, "swings", "()I"⟩
abbrev cX11_fear : ByteArray := prog_1_method_26_code
def yX11_fear : MethodName := ⟨RX11, "fear", "(II)I"⟩
abbrev cX11_rooks : ByteArray := prog_1_method_27_code
def yX11_rooks : MethodName := ⟨RX11, "rooks", "(II)I"⟩
abbrev cX11_corn : ByteArray := prog_1_method_28_code
def yX11_corn : MethodName := ⟨RX11, "corn", "(II)I"⟩
abbrev cX11_eaten : ByteArray := prog_1_method_29_code
def yX11_eaten : MethodName := ⟨RX11, "eaten", "(II)I"⟩
abbrev cX11_flies : ByteArray := prog_1_method_30_code
def yX11_flies : MethodName := ⟨RX11, "flies", "(II)I"⟩
abbrev cX11_all : ByteArray := prog_1_method_31_code
def yX11_all : MethodName := ⟨RX11, "all", "(I)I"⟩
abbrev cX11_black : ByteArray := prog_1_method_32_code
def yX11_black : MethodName := ⟨RX11, "black", "(I)I"⟩
abbrev cX11_richest : ByteArray := prog_1_method_33_code
def yX11_richest : MethodName := ⟨RX11, "richest", "(I)I"⟩
abbrev cX11_shoulder : ByteArray := prog_1_method_34_code
def yX11_shoulder : MethodName := ⟨RX11, "shoulder", "(I)I"⟩
abbrev cX11_bare : ByteArray := prog_1_method_35_code
def yX11_bare : MethodName := ⟨RX11, "bare", "(I)I"⟩
abbrev cX11_kept : ByteArray := prog_1_method_36_code
def yX11_kept : MethodName := ⟨RX11, "kept", "()I"⟩
abbrev cX11_worst : ByteArray := prog_1_method_37_code
def yX11_worst : MethodName := ⟨RX11, "worst", "()I"⟩
abbrev cX11_tired : ByteArray := prog_1_method_38_code
def yX11_tired : MethodName := ⟨RX11, "tired", "(I)I"⟩
abbrev cX11_guards : ByteArray := prog_1_method_39_code
def yX11_guards : MethodName := ⟨RX11, "guards", "()I"⟩
abbrev cX11_eats : ByteArray := prog_1_method_40_code
def yX11_eats : MethodName := ⟨RX11, "eats", "(I)I"⟩
abbrev cX11_quiet : ByteArray := prog_1_method_41_code
def yX11_quiet : MethodName := ⟨RX11, "quiet", "(I)I"⟩
abbrev cX11_peace : ByteArray := prog_1_method_42_code
def yX11_peace : MethodName := ⟨RX11, "peace", "()I"⟩
abbrev cX11_bold : ByteArray := prog_1_method_43_code
def yX11_bold : MethodName := ⟨RX11, "bold", "(I)I"⟩
abbrev cX11_most : ByteArray := prog_1_method_44_code
def yX11_most : MethodName := ⟨RX11, "most", "(I)I"⟩
abbrev cX11_flown : ByteArray := prog_1_method_45_code
def yX11_flown : MethodName := ⟨RX11, "flown", "(I)I"⟩
abbrev cX11_best : ByteArray := prog_1_method_46_code
def yX11_best : MethodName := ⟨RX11, "best", "()I"⟩
abbrev cX11_put : ByteArray := prog_1_method_47_code
def yX11_put : MethodName := ⟨RX11, "put", "(I)I"⟩
abbrev cX11_ways : ByteArray := prog_1_method_48_code
def yX11_ways : MethodName := ⟨RX11, "ways", "()I"⟩
abbrev cX11_fewest : ByteArray := prog_1_method_49_code
def yX11_fewest : MethodName := ⟨RX11, "fewest", "()I"⟩
abbrev cX11_by : ByteArray := prog_1_method_50_code
def yX11_by : MethodName := ⟨RX11, "by", "(I)I"⟩
abbrev cX11_law : ByteArray := prog_1_method_51_code
def yX11_law : MethodName := ⟨RX11, "law", "()I"⟩
abbrev cX11_speech : ByteArray := prog_1_method_52_code
def yX11_speech : MethodName := ⟨RX11, "speech", "()I"⟩
abbrev cX11_gap : ByteArray := prog_1_method_53_code
def yX11_gap : MethodName := ⟨RX11, "gap", "()I"⟩
abbrev cX11_may : ByteArray := prog_1_method_54_code
def yX11_may : MethodName := ⟨RX11, "may", "(II)I"⟩
abbrev cX11_ask : ByteArray := prog_1_method_55_code
def yX11_ask : MethodName := ⟨RX11, "ask", "(II)I"⟩
abbrev cX11_leaves : ByteArray := prog_1_method_56_code
def yX11_leaves : MethodName := ⟨RX11, "leaves", "(II)I"⟩
abbrev cX11_rests : ByteArray := prog_1_method_57_code
def yX11_rests : MethodName := ⟨RX11, "rests", "(II)I"⟩
abbrev cX11_gets : ByteArray := prog_1_method_58_code
def yX11_gets : MethodName := ⟨RX11, "gets", "(IIII)I"⟩
abbrev cX11_chance : ByteArray := prog_1_method_59_code
def yX11_chance : MethodName := ⟨RX11, "chance", "(IIII)J"⟩
abbrev cX11_mean : ByteArray := prog_1_method_60_code
def yX11_mean : MethodName := ⟨RX11, "mean", "(II)J"⟩
abbrev cX11_drawn : ByteArray := prog_1_method_61_code
def yX11_drawn : MethodName := ⟨RX11, "drawn", "(II)I"⟩
abbrev cX11_luck : ByteArray := prog_1_method_62_code
def yX11_luck : MethodName := ⟨RX11, "luck", "(III)I"⟩
abbrev cX11_puts : ByteArray := prog_1_method_63_code
def yX11_puts : MethodName := ⟨RX11, "puts", "(II)I"⟩
abbrev cX11_speaks : ByteArray := prog_1_method_64_code
def yX11_speaks : MethodName := ⟨RX11, "speaks", "(II)I"⟩
abbrev cX11_undo : ByteArray := prog_1_method_65_code
def yX11_undo : MethodName := ⟨RX11, "undo", "()I"⟩
abbrev cX11_anew : ByteArray := prog_1_method_66_code
def yX11_anew : MethodName := ⟨RX11, "anew", "()I"⟩
abbrev cX11_rate : ByteArray := prog_1_method_67_code
def yX11_rate : MethodName := ⟨RX11, "rate", "(II)I"⟩
abbrev cX11_count : ByteArray := prog_1_method_68_code
def yX11_count : MethodName := ⟨RX11, "count", "(I)I"⟩
abbrev cX11_image : ByteArray := prog_1_method_69_code
def yX11_image : MethodName := ⟨RX11, "image", "(I)I"⟩
abbrev cX11_back : ByteArray := prog_1_method_70_code
def yX11_back : MethodName := ⟨RX11, "back", "(I)I"⟩
abbrev cX11_row : ByteArray := prog_1_method_71_code
def yX11_row : MethodName := ⟨RX11, "row", "(III)I"⟩
abbrev cX11_write : ByteArray := prog_1_method_72_code
def yX11_write : MethodName := ⟨RX11, "write", "(IIJ)I"⟩
abbrev cX11_paste : ByteArray := prog_1_method_73_code
def yX11_paste : MethodName := ⟨RX11, "paste", "(IIIII)I"⟩
abbrev cX11_isTold : ByteArray := prog_1_method_74_code
def yX11_isTold : MethodName := ⟨RX11, "isTold", "()Z"⟩
abbrev cX11_isField : ByteArray := prog_1_method_75_code
def yX11_isField : MethodName := ⟨RX11, "isField", "(I)Z"⟩
abbrev cX11_isMan : ByteArray := prog_1_method_76_code
def yX11_isMan : MethodName := ⟨RX11, "isMan", "(I)Z"⟩
abbrev cX11_isVoter : ByteArray := prog_1_method_77_code
def yX11_isVoter : MethodName := ⟨RX11, "isVoter", "(I)Z"⟩
abbrev cX11_isDay : ByteArray := prog_1_method_78_code
def yX11_isDay : MethodName := ⟨RX11, "isDay", "(I)Z"⟩
abbrev cX11_isEatingDay : ByteArray := prog_1_method_79_code
def yX11_isEatingDay : MethodName := ⟨RX11, "isEatingDay", "(I)Z"⟩
abbrev cX11_isChanceDay : ByteArray := prog_1_method_80_code
def yX11_isChanceDay : MethodName := ⟨RX11, "isChanceDay", "(I)Z"⟩
abbrev cX11_isSet : ByteArray := prog_1_method_81_code
def yX11_isSet : MethodName := ⟨RX11, "isSet", "(I)Z"⟩
abbrev cX11_isLaw : ByteArray := prog_1_method_82_code
def yX11_isLaw : MethodName := ⟨RX11, "isLaw", "(I)Z"⟩
abbrev cX11_isSeed : ByteArray := prog_1_method_83_code
def yX11_isSeed : MethodName := ⟨RX11, "isSeed", "(I)Z"⟩
abbrev cX11_isPair : ByteArray := prog_1_method_84_code
def yX11_isPair : MethodName := ⟨RX11, "isPair", "(I)Z"⟩
abbrev cX11_hasBit : ByteArray := prog_1_method_85_code
def yX11_hasBit : MethodName := ⟨RX11, "hasBit", "(II)Z"⟩
abbrev cX11_forget : ByteArray := prog_1_method_86_code
def yX11_forget : MethodName := ⟨RX11, "forget", "()V"⟩
abbrev cX11_settle : ByteArray := prog_1_method_87_code
def yX11_settle : MethodName := ⟨RX11, "settle", "()V"⟩
abbrev cX11_cellNow : ByteArray := prog_1_method_88_code
def yX11_cellNow : MethodName := ⟨RX11, "cellNow", "([III)I"⟩
abbrev cX11_sumNow : ByteArray := prog_1_method_89_code
def yX11_sumNow : MethodName := ⟨RX11, "sumNow", "([II)I"⟩
abbrev cX11_mostNow : ByteArray := prog_1_method_90_code
def yX11_mostNow : MethodName := ⟨RX11, "mostNow", "([II)I"⟩
abbrev cX11_firstZeroNow : ByteArray := prog_1_method_91_code
def yX11_firstZeroNow : MethodName := ⟨RX11, "firstZeroNow", "([II)I"⟩
abbrev cX11_learnPlain : ByteArray := prog_1_method_92_code
def yX11_learnPlain : MethodName := ⟨RX11, "learnPlain", "()V"⟩
abbrev cX11_leftOnTrial : ByteArray := prog_1_method_93_code
def yX11_leftOnTrial : MethodName := ⟨RX11, "leftOnTrial", "()I"⟩
abbrev cX11_leftByLaw : ByteArray := prog_1_method_94_code
def yX11_leftByLaw : MethodName := ⟨RX11, "leftByLaw", "(I)I"⟩
abbrev cX11_gainOf : ByteArray := prog_1_method_95_code
def yX11_gainOf : MethodName := ⟨RX11, "gainOf", "(IIII)I"⟩
abbrev cX11_wrongSeen : ByteArray := prog_1_method_96_code
def yX11_wrongSeen : MethodName := ⟨RX11, "wrongSeen", "(II)I"⟩
abbrev cX11_isBetween : ByteArray := prog_1_method_97_code
def yX11_isBetween : MethodName := ⟨RX11, "isBetween", "(JI)Z"⟩
abbrev cX11_guessAll : ByteArray := prog_1_method_98_code
def yX11_guessAll : MethodName := ⟨RX11, "guessAll", "(II)V"⟩
abbrev cX11_isAsSeen : ByteArray := prog_1_method_99_code
def yX11_isAsSeen : MethodName := ⟨RX11, "isAsSeen", "(I)Z"⟩
abbrev cX11_windWeight : ByteArray := prog_1_method_100_code
def yX11_windWeight : MethodName := ⟨RX11, "windWeight", "(II)J"⟩
abbrev cX11_power10 : ByteArray := prog_1_method_101_code
def yX11_power10 : MethodName := ⟨RX11, "power10", "(I)J"⟩
abbrev cX11_partOf : ByteArray := prog_1_method_102_code
def yX11_partOf : MethodName := ⟨RX11, "partOf", "(JJI)J"⟩
abbrev cX11_commonDivisor : ByteArray := prog_1_method_103_code
def yX11_commonDivisor : MethodName := ⟨RX11, "commonDivisor", "(JJ)J"⟩
abbrev cX11_drawWind : ByteArray := prog_1_method_104_code
def yX11_drawWind : MethodName := ⟨RX11, "drawWind", "(J)I"⟩
abbrev cX11_drawHarvest : ByteArray := prog_1_method_105_code
def yX11_drawHarvest : MethodName := ⟨RX11, "drawHarvest", "(J)V"⟩
def RX12 : String := "RookHustingModel"
def TX12 : u_T := fun k => match k with
  | 0 => ("RookHustingModel", "thrown", "I", false)
  | 1 => ("RookHustingModel", "world", "[I", true)
  | 2 => ("RookHustingModel", "images", "[I", true)
  | 3 => ("RookHustingModel", "hasImage", "[Z", true)
  | 4 => ("RookHustingModel", "tape", "[B", true)
  | 5 => ("RookHustingModel", "taped", "I", false)
  | 6 => ("RookHustingModel", "five", "[I", true)
  | 7 => ("RookHustingModel", "size", "I", false)
  | 8 => ("RookHustingModel", "at", "I", false)
  | 9 => ("RookHustingModel", "from", "I", false)
  | 10 => ("RookHustingModel", "token", "I", false)
  | 11 => ("RookHustingModel", "value", "I", false)
  | 12 => ("RookHustingModel", "faultKind", "I", false)
  | 13 => ("RookHustingModel", "faultPlace", "I", false)
  | 14 => ("RookHustingModel", "fresh", "[I", true)
  | 15 => ("RookHustingModel", "rowOf", "[I", true)
  | 16 => ("RookHustingModel", "longOf", "[I", true)
  | 17 => ("RookHustingModel", "awaySet", "I", false)
  | 18 => ("RookHustingModel", "electedIn", "[I", true)
  | 19 => ("RookHustingModel", "standsIn", "[I", true)
  | 20 => ("RookHustingModel", "spokeOn", "[I", true)
  | 21 => ("RookHustingModel", "windSet", "I", false)
  | 22 => ("RookHustingModel", "alwaysSet", "I", false)
  | 23 => ("RookHustingModel", "moreOne", "I", false)
  | 24 => ("RookHustingModel", "moreOther", "I", false)
  | 25 => ("RookHustingModel", "fearAt", "[I", true)
  | 26 => ("RookHustingModel", "rooksAt", "[I", true)
  | 27 => ("RookHustingModel", "cornAt", "[I", true)
  | 28 => ("RookHustingModel", "eatenAt", "[I", true)
  | 29 => ("RookHustingModel", "flyAt", "[I", true)
  | 30 => ("RookHustingModel", "flownOn", "[I", true)
  | 31 => ("RookHustingModel", "firstRow", "[I", true)
  | 32 => ("RookHustingModel", "rowMost", "I", false)
  | 33 => ("RookHustingModel", "rowMany", "I", false)
  | 34 => ("RookHustingModel", "rowFewest", "I", false)
  | 35 => ("RookHustingModel", "rooksBy", "[I", true)
  | 36 => ("RookHustingModel", "maySet", "I", false)
  | 37 => ("RookHustingModel", "askWorst", "I", false)
  | 38 => ("RookHustingModel", "oftenAll", "J", false)
  | 39 => ("RookHustingModel", "oftenLeft", "J", false)
  | 40 => ("RookHustingModel", "oftenCorn", "J", false)
  | 41 => ("RookHustingModel", "many", "[I", true)
  | 42 => ("RookHustingModel", "width", "[I", true)
  | 43 => ("RookHustingModel", "numbers", "[J", true)
  | _ => ("RookHustingModel", "moving", "[J", true)
def tyX12 : Nat → FieldType := fun k => match k with
  | 0 => .int
  | 1 => .array .int
  | 2 => .array .int
  | 3 => .array .boolean
  | 4 => .array .byte
  | 5 => .int
  | 6 => .array .int
  | 7 => .int
  | 8 => .int
  | 9 => .int
  | 10 => .int
  | 11 => .int
  | 12 => .int
  | 13 => .int
  | 14 => .array .int
  | 15 => .array .int
  | 16 => .array .int
  | 17 => .int
  | 18 => .array .int
  | 19 => .array .int
  | 20 => .array .int
  | 21 => .int
  | 22 => .int
  | 23 => .int
  | 24 => .int
  | 25 => .array .int
  | 26 => .array .int
  | 27 => .array .int
  | 28 => .array .int
  | 29 => .array .int
  | 30 => .array .int
  | 31 => .array .int
  | 32 => .int
  | 33 => .int
  | 34 => .int
  | 35 => .array .int
  | 36 => .int
  | 37 => .int
  | 38 => .long
  | 39 => .long
  | 40 => .long
  | 41 => .array .int
  | 42 => .array .int
  | 43 => .array .long
  | _ => .array .long
theorem nmX12 : ∀ a, a < 45 → ∀ b, b < 45 → a ≠ b → (TX12 a).2.1 ≠ (TX12 b).2.1 := by decide +kernel
theorem tyX12_ok : ∀ k, k < 45 → parseFieldDescriptor (TX12 k).2.2.1 = some (tyX12 k) := by decide +kernel
abbrev cX12_init : ByteArray := prog_14_method_1_code
def yX12_init : MethodName := ⟨RX12, "<init>", "()V"⟩
abbrev cX12_in : ByteArray := prog_14_method_3_code
def yX12_in : MethodName := ⟨RX12, "in", "(JJJ)Z"⟩
abbrev cX12_bits : ByteArray := prog_14_method_4_code
def yX12_bits : MethodName := ⟨RX12, "bits", "(I)I"⟩
abbrev cX12_bit : ByteArray := prog_14_method_5_code
def yX12_bit : MethodName := ⟨RX12, "bit", "(II)I"⟩
abbrev cX12_image : ByteArray := prog_14_method_6_code
def yX12_image : MethodName := ⟨RX12, "image", "(I)I"⟩
abbrev cX12_back : ByteArray := prog_14_method_7_code
def yX12_back : MethodName := ⟨RX12, "back", "(I)I"⟩
abbrev cX12_isHundred : ByteArray := prog_14_method_8_code
def yX12_isHundred : MethodName := ⟨RX12, "isHundred", "()Z"⟩
abbrev cX12_days : ByteArray := prog_14_method_9_code
def yX12_days : MethodName := ⟨RX12, "days", "()I"⟩
abbrev cX12_fields : ByteArray := prog_14_method_10_code
def yX12_fields : MethodName := ⟨RX12, "fields", "()I"⟩
abbrev cX12_men : ByteArray := prog_14_method_11_code
def yX12_men : MethodName := ⟨RX12, "men", "()I"⟩
abbrev cX12_allMen : ByteArray := prog_14_method_12_code
def yX12_allMen : MethodName := ⟨RX12, "allMen", "()I"⟩
abbrev cX12_isDay : ByteArray := prog_14_method_13_code
def yX12_isDay : MethodName := ⟨RX12, "isDay", "(J)Z"⟩
abbrev cX12_isAhead : ByteArray := prog_14_method_14_code
def yX12_isAhead : MethodName := ⟨RX12, "isAhead", "(J)Z"⟩
abbrev cX12_isField : ByteArray := prog_14_method_15_code
def yX12_isField : MethodName := ⟨RX12, "isField", "(J)Z"⟩
abbrev cX12_isMan : ByteArray := prog_14_method_16_code
def yX12_isMan : MethodName := ⟨RX12, "isMan", "(I)Z"⟩
abbrev cX12_isVoter : ByteArray := prog_14_method_17_code
def yX12_isVoter : MethodName := ⟨RX12, "isVoter", "(I)Z"⟩
abbrev cX12_areFields : ByteArray := prog_14_method_18_code
def yX12_areFields : MethodName := ⟨RX12, "areFields", "(II)Z"⟩
abbrev cX12_hatsOf : ByteArray := prog_14_method_19_code
def yX12_hatsOf : MethodName := ⟨RX12, "hatsOf", "(I)I"⟩
abbrev cX12_feed : ByteArray := prog_14_method_20_code
def yX12_feed : MethodName := ⟨RX12, "feed", "(IIIII)I"⟩
abbrev cX12_end : ByteArray := prog_14_method_21_code
def yX12_end : MethodName := ⟨RX12, "end", "(I)I"⟩
abbrev cX12_see : ByteArray := prog_14_method_22_code
def yX12_see : MethodName := ⟨RX12, "see", "(I)I"⟩
abbrev cX12_advance : ByteArray := prog_14_method_23_code
def yX12_advance : MethodName := ⟨RX12, "advance", "()V"⟩
abbrev cX12_good : ByteArray := prog_14_method_24_code
def yX12_good : MethodName := ⟨RX12, "good", "()Z"⟩
abbrev cX12_errs : ByteArray := prog_14_method_25_code
def yX12_errs : MethodName := ⟨RX12, "errs", "(I)V"⟩
abbrev cX12_is : ByteArray := prog_14_method_26_code
def yX12_is : MethodName := ⟨RX12, "is", "(Ljava/lang/String;)Z"⟩
abbrev cX12_takes : ByteArray := prog_14_method_27_code
def yX12_takes : MethodName := ⟨RX12, "takes", "(Ljava/lang/String;)Z"⟩
abbrev cX12_expects : ByteArray := prog_14_method_28_code
def yX12_expects : MethodName := ⟨RX12, "expects", "(Ljava/lang/String;)V"⟩
abbrev cX12_number : ByteArray := prog_14_method_29_code
def yX12_number : MethodName := ⟨RX12, "number", "(II)I"⟩
abbrev cX12_told : ByteArray := prog_14_method_30_code
def yX12_told : MethodName := ⟨RX12, "told", "(Ljava/lang/String;II)I"⟩
abbrev cX12_fault : ByteArray := prog_14_method_31_code
def yX12_fault : MethodName := ⟨RX12, "fault", "(I)I"⟩
abbrev cX12_readFirst : ByteArray := prog_14_method_32_code
def yX12_readFirst : MethodName := ⟨RX12, "readFirst", "()V"⟩
abbrev cX12_readHedge : ByteArray := prog_14_method_33_code
def yX12_readHedge : MethodName := ⟨RX12, "readHedge", "()V"⟩
abbrev cX12_readVoter : ByteArray := prog_14_method_34_code
def yX12_readVoter : MethodName := ⟨RX12, "readVoter", "()V"⟩
abbrev cX12_isFull : ByteArray := prog_14_method_35_code
def yX12_isFull : MethodName := ⟨RX12, "isFull", "()Z"⟩
abbrev cX12_readNext : ByteArray := prog_14_method_36_code
def yX12_readNext : MethodName := ⟨RX12, "readNext", "()V"⟩
abbrev cX12_readLine : ByteArray := prog_14_method_37_code
def yX12_readLine : MethodName := ⟨RX12, "readLine", "()V"⟩
abbrev cX12_hundred : ByteArray := prog_14_method_38_code
def yX12_hundred : MethodName := ⟨RX12, "hundred", "()I"⟩
abbrev cX12_field : ByteArray := prog_14_method_39_code
def yX12_field : MethodName := ⟨RX12, "field", "(II)I"⟩
abbrev cX12_man : ByteArray := prog_14_method_40_code
def yX12_man : MethodName := ⟨RX12, "man", "(II)I"⟩
abbrev cX12_hats : ByteArray := prog_14_method_41_code
def yX12_hats : MethodName := ⟨RX12, "hats", "(I)I"⟩
abbrev cX12_rowsAsTold : ByteArray := prog_14_method_42_code
def yX12_rowsAsTold : MethodName := ⟨RX12, "rowsAsTold", "()V"⟩
abbrev cX12_wants : ByteArray := prog_14_method_43_code
def yX12_wants : MethodName := ⟨RX12, "wants", "(II)I"⟩
abbrev cX12_timesOf : ByteArray := prog_14_method_44_code
def yX12_timesOf : MethodName := ⟨RX12, "timesOf", "(IIII)I"⟩
abbrev cX12_votesOf : ByteArray := prog_14_method_45_code
def yX12_votesOf : MethodName := ⟨RX12, "votesOf", "(III)I"⟩
abbrev cX12_mostOf : ByteArray := prog_14_method_46_code
def yX12_mostOf : MethodName := ⟨RX12, "mostOf", "(II)I"⟩
abbrev cX12_fewestOf : ByteArray := prog_14_method_47_code
def yX12_fewestOf : MethodName := ⟨RX12, "fewestOf", "(I)I"⟩
abbrev cX12_electsOf : ByteArray := prog_14_method_48_code
def yX12_electsOf : MethodName := ⟨RX12, "electsOf", "(II)I"⟩
abbrev cX12_isSet : ByteArray := prog_14_method_49_code
def yX12_isSet : MethodName := ⟨RX12, "isSet", "(I)Z"⟩
abbrev cX12_votes : ByteArray := prog_14_method_50_code
def yX12_votes : MethodName := ⟨RX12, "votes", "(III)I"⟩
abbrev cX12_elects : ByteArray := prog_14_method_51_code
def yX12_elects : MethodName := ⟨RX12, "elects", "(II)I"⟩
abbrev cX12_electAll : ByteArray := prog_14_method_52_code
def yX12_electAll : MethodName := ⟨RX12, "electAll", "(I)V"⟩
abbrev cX12_elected : ByteArray := prog_14_method_53_code
def yX12_elected : MethodName := ⟨RX12, "elected", "(I)I"⟩
abbrev cX12_wantsMore : ByteArray := prog_14_method_54_code
def yX12_wantsMore : MethodName := ⟨RX12, "wantsMore", "(III)Z"⟩
abbrev cX12_overOf : ByteArray := prog_14_method_55_code
def yX12_overOf : MethodName := ⟨RX12, "overOf", "(II)I"⟩
abbrev cX12_isOver : ByteArray := prog_14_method_56_code
def yX12_isOver : MethodName := ⟨RX12, "isOver", "(II)Z"⟩
abbrev cX12_over : ByteArray := prog_14_method_57_code
def yX12_over : MethodName := ⟨RX12, "over", "(II)I"⟩
abbrev cX12_beats : ByteArray := prog_14_method_58_code
def yX12_beats : MethodName := ⟨RX12, "beats", "()I"⟩
abbrev cX12_isRing : ByteArray := prog_14_method_59_code
def yX12_isRing : MethodName := ⟨RX12, "isRing", "(III)Z"⟩
abbrev cX12_rings : ByteArray := prog_14_method_60_code
def yX12_rings : MethodName := ⟨RX12, "rings", "()I"⟩
abbrev cX12_hatsIn : ByteArray := prog_14_method_61_code
def yX12_hatsIn : MethodName := ⟨RX12, "hatsIn", "(I)I"⟩
abbrev cX12_least : ByteArray := prog_14_method_62_code
def yX12_least : MethodName := ⟨RX12, "least", "(I)I"⟩
abbrev cX12_doesGain : ByteArray := prog_14_method_63_code
def yX12_doesGain : MethodName := ⟨RX12, "doesGain", "(IIII)Z"⟩
abbrev cX12_gainsOf : ByteArray := prog_14_method_64_code
def yX12_gainsOf : MethodName := ⟨RX12, "gainsOf", "(I)Z"⟩
abbrev cX12_gains : ByteArray := prog_14_method_65_code
def yX12_gains : MethodName := ⟨RX12, "gains", "(I)I"⟩
abbrev cX12_plain : ByteArray := prog_14_method_66_code
def yX12_plain : MethodName := ⟨RX12, "plain", "()I"⟩
abbrev cX12_factorial : ByteArray := prog_14_method_67_code
def yX12_factorial : MethodName := ⟨RX12, "factorial", "(I)I"⟩
abbrev cX12_divisor : ByteArray := prog_14_method_68_code
def yX12_divisor : MethodName := ⟨RX12, "divisor", "(JJ)J"⟩
abbrev cX12_part : ByteArray := prog_14_method_69_code
def yX12_part : MethodName := ⟨RX12, "part", "(JJI)J"⟩
abbrev cX12_power : ByteArray := prog_14_method_70_code
def yX12_power : MethodName := ⟨RX12, "power", "(II)I"⟩
abbrev cX12_loved : ByteArray := prog_14_method_71_code
def yX12_loved : MethodName := ⟨RX12, "loved", "(I)I"⟩
abbrev cX12_shunned : ByteArray := prog_14_method_72_code
def yX12_shunned : MethodName := ⟨RX12, "shunned", "(I)I"⟩
abbrev cX12_swings : ByteArray := prog_14_method_73_code
def yX12_swings : MethodName := ⟨RX12, "swings", "()I"⟩
abbrev cX12_tired : ByteArray := prog_14_method_74_code
def yX12_tired : MethodName := ⟨RX12, "tired", "(I)I"⟩
abbrev cX12_speeches : ByteArray := prog_14_method_75_code
def yX12_speeches : MethodName := ⟨RX12, "speeches", "()V"⟩
abbrev cX12_putMan : ByteArray := prog_14_method_76_code
def yX12_putMan : MethodName := ⟨RX12, "putMan", "(II)V"⟩
abbrev cX12_asElected : ByteArray := prog_14_method_77_code
def yX12_asElected : MethodName := ⟨RX12, "asElected", "(I)V"⟩
abbrev cX12_asItIs : ByteArray := prog_14_method_78_code
def yX12_asItIs : MethodName := ⟨RX12, "asItIs", "()V"⟩
abbrev cX12_stands : ByteArray := prog_14_method_79_code
def yX12_stands : MethodName := ⟨RX12, "stands", "(I)I"⟩
abbrev cX12_where : ByteArray := prog_14_method_80_code
def yX12_where : MethodName := ⟨RX12, "where", "(I)I"⟩
abbrev cX12_guards : ByteArray := prog_14_method_81_code
def yX12_guards : MethodName := ⟨RX12, "guards", "()I"⟩
abbrev cX12_hedgesOf : ByteArray := prog_14_method_82_code
def yX12_hedgesOf : MethodName := ⟨RX12, "hedgesOf", "(I)I"⟩
abbrev cX12_hedges : ByteArray := prog_14_method_83_code
def yX12_hedges : MethodName := ⟨RX12, "hedges", "(I)I"⟩
abbrev cX12_fearOf : ByteArray := prog_14_method_84_code
def yX12_fearOf : MethodName := ⟨RX12, "fearOf", "(II)I"⟩
abbrev cX12_flyTo : ByteArray := prog_14_method_85_code
def yX12_flyTo : MethodName := ⟨RX12, "flyTo", "(II)I"⟩
abbrev cX12_goDay : ByteArray := prog_14_method_86_code
def yX12_goDay : MethodName := ⟨RX12, "goDay", "(I)V"⟩
abbrev cX12_goAll : ByteArray := prog_14_method_87_code
def yX12_goAll : MethodName := ⟨RX12, "goAll", "()V"⟩
abbrev cX12_asksHundred : ByteArray := prog_14_method_88_code
def yX12_asksHundred : MethodName := ⟨RX12, "asksHundred", "()Z"⟩
abbrev cX12_asksDay : ByteArray := prog_14_method_89_code
def yX12_asksDay : MethodName := ⟨RX12, "asksDay", "(I)Z"⟩
abbrev cX12_asksAhead : ByteArray := prog_14_method_90_code
def yX12_asksAhead : MethodName := ⟨RX12, "asksAhead", "(I)Z"⟩
abbrev cX12_asksField : ByteArray := prog_14_method_91_code
def yX12_asksField : MethodName := ⟨RX12, "asksField", "(I)Z"⟩
abbrev cX12_allCorn : ByteArray := prog_14_method_92_code
def yX12_allCorn : MethodName := ⟨RX12, "allCorn", "(I)I"⟩
abbrev cX12_allLast : ByteArray := prog_14_method_93_code
def yX12_allLast : MethodName := ⟨RX12, "allLast", "()I"⟩
abbrev cX12_fear : ByteArray := prog_14_method_94_code
def yX12_fear : MethodName := ⟨RX12, "fear", "(II)I"⟩
abbrev cX12_rooks : ByteArray := prog_14_method_95_code
def yX12_rooks : MethodName := ⟨RX12, "rooks", "(II)I"⟩
abbrev cX12_corn : ByteArray := prog_14_method_96_code
def yX12_corn : MethodName := ⟨RX12, "corn", "(II)I"⟩
abbrev cX12_eaten : ByteArray := prog_14_method_97_code
def yX12_eaten : MethodName := ⟨RX12, "eaten", "(II)I"⟩
abbrev cX12_flies : ByteArray := prog_14_method_98_code
def yX12_flies : MethodName := ⟨RX12, "flies", "(II)I"⟩
abbrev cX12_all : ByteArray := prog_14_method_99_code
def yX12_all : MethodName := ⟨RX12, "all", "(I)I"⟩
abbrev cX12_black : ByteArray := prog_14_method_100_code
def yX12_black : MethodName := ⟨RX12, "black", "(I)I"⟩
abbrev cX12_shoulder : ByteArray := prog_14_method_101_code
def yX12_shoulder : MethodName := ⟨RX12, "shoulder", "(I)I"⟩
abbrev cX12_bare : ByteArray := prog_14_method_102_code
def yX12_bare : MethodName := ⟨RX12, "bare", "(I)I"⟩
abbrev cX12_kept : ByteArray := prog_14_method_103_code
def yX12_kept : MethodName := ⟨RX12, "kept", "()I"⟩
abbrev cX12_worst : ByteArray := prog_14_method_104_code
def yX12_worst : MethodName := ⟨RX12, "worst", "()I"⟩
abbrev cX12_eats : ByteArray := prog_14_method_105_code
def yX12_eats : MethodName := ⟨RX12, "eats", "(I)I"⟩
abbrev cX12_quiet : ByteArray := prog_14_method_106_code
def yX12_quiet : MethodName := ⟨RX12, "quiet", "(I)I"⟩
abbrev cX12_peace : ByteArray := prog_14_method_107_code
def yX12_peace : MethodName := ⟨RX12, "peace", "()I"⟩
abbrev cX12_bold : ByteArray := prog_14_method_108_code
def yX12_bold : MethodName := ⟨RX12, "bold", "(I)I"⟩
abbrev cX12_most : ByteArray := prog_14_method_109_code
def yX12_most : MethodName := ⟨RX12, "most", "(I)I"⟩
abbrev cX12_flown : ByteArray := prog_14_method_110_code
def yX12_flown : MethodName := ⟨RX12, "flown", "(I)I"⟩
abbrev cX12_richest : ByteArray := prog_14_method_111_code
def yX12_richest : MethodName := ⟨RX12, "richest", "(I)I"⟩
abbrev cX12_nextRow : ByteArray := prog_14_method_112_code
def yX12_nextRow : MethodName := ⟨RX12, "nextRow", "()Z"⟩
abbrev cX12_menIn : ByteArray := prog_14_method_113_code
def yX12_menIn : MethodName := ⟨RX12, "menIn", "()I"⟩
abbrev cX12_tryRow : ByteArray := prog_14_method_114_code
def yX12_tryRow : MethodName := ⟨RX12, "tryRow", "()V"⟩
abbrev cX12_asksRows : ByteArray := prog_14_method_115_code
def yX12_asksRows : MethodName := ⟨RX12, "asksRows", "()Z"⟩
abbrev cX12_best : ByteArray := prog_14_method_116_code
def yX12_best : MethodName := ⟨RX12, "best", "()I"⟩
abbrev cX12_ways : ByteArray := prog_14_method_117_code
def yX12_ways : MethodName := ⟨RX12, "ways", "()I"⟩
abbrev cX12_fewest : ByteArray := prog_14_method_118_code
def yX12_fewest : MethodName := ⟨RX12, "fewest", "()I"⟩
abbrev cX12_put : ByteArray := prog_14_method_119_code
def yX12_put : MethodName := ⟨RX12, "put", "(I)I"⟩
abbrev cX12_leftBy : ByteArray := prog_14_method_120_code
def yX12_leftBy : MethodName := ⟨RX12, "leftBy", "(I)I"⟩
abbrev cX12_by : ByteArray := prog_14_method_121_code
def yX12_by : MethodName := ⟨RX12, "by", "(I)I"⟩
abbrev cX12_law : ByteArray := prog_14_method_122_code
def yX12_law : MethodName := ⟨RX12, "law", "()I"⟩
abbrev cX12_speech : ByteArray := prog_14_method_123_code
def yX12_speech : MethodName := ⟨RX12, "speech", "()I"⟩
abbrev cX12_gap : ByteArray := prog_14_method_124_code
def yX12_gap : MethodName := ⟨RX12, "gap", "()I"⟩
abbrev cX12_numberAt : ByteArray := prog_14_method_125_code
def yX12_numberAt : MethodName := ⟨RX12, "numberAt", "(II)J"⟩
abbrev cX12_askSeen : ByteArray := prog_14_method_126_code
def yX12_askSeen : MethodName := ⟨RX12, "askSeen", "(II)I"⟩
abbrev cX12_isSeen : ByteArray := prog_14_method_127_code
def yX12_isSeen : MethodName := ⟨RX12, "isSeen", "(I)Z"⟩
abbrev cX12_layMay : ByteArray := prog_14_method_128_code
def yX12_layMay : MethodName := ⟨RX12, "layMay", "(II)I"⟩
abbrev cX12_may : ByteArray := prog_14_method_129_code
def yX12_may : MethodName := ⟨RX12, "may", "(II)I"⟩
abbrev cX12_sameBy : ByteArray := prog_14_method_130_code
def yX12_sameBy : MethodName := ⟨RX12, "sameBy", "(II)I"⟩
abbrev cX12_askOf : ByteArray := prog_14_method_131_code
def yX12_askOf : MethodName := ⟨RX12, "askOf", "()I"⟩
abbrev cX12_ask : ByteArray := prog_14_method_132_code
def yX12_ask : MethodName := ⟨RX12, "ask", "(II)I"⟩
abbrev cX12_leaves : ByteArray := prog_14_method_133_code
def yX12_leaves : MethodName := ⟨RX12, "leaves", "(II)I"⟩
abbrev cX12_getsBy : ByteArray := prog_14_method_134_code
def yX12_getsBy : MethodName := ⟨RX12, "getsBy", "(IIIII)I"⟩
abbrev cX12_rests : ByteArray := prog_14_method_135_code
def yX12_rests : MethodName := ⟨RX12, "rests", "(II)I"⟩
abbrev cX12_gets : ByteArray := prog_14_method_136_code
def yX12_gets : MethodName := ⟨RX12, "gets", "(IIII)I"⟩
abbrev cX12_layWinds : ByteArray := prog_14_method_137_code
def yX12_layWinds : MethodName := ⟨RX12, "layWinds", "(III)V"⟩
abbrev cX12_isWinds : ByteArray := prog_14_method_138_code
def yX12_isWinds : MethodName := ⟨RX12, "isWinds", "(II)Z"⟩
abbrev cX12_chance : ByteArray := prog_14_method_139_code
def yX12_chance : MethodName := ⟨RX12, "chance", "(IIII)J"⟩
abbrev cX12_mean : ByteArray := prog_14_method_140_code
def yX12_mean : MethodName := ⟨RX12, "mean", "(II)J"⟩
abbrev cX12_keepAct : ByteArray := prog_14_method_141_code
def yX12_keepAct : MethodName := ⟨RX12, "keepAct", "(I)Z"⟩
abbrev cX12_puts : ByteArray := prog_14_method_142_code
def yX12_puts : MethodName := ⟨RX12, "puts", "(II)I"⟩
abbrev cX12_speaks : ByteArray := prog_14_method_143_code
def yX12_speaks : MethodName := ⟨RX12, "speaks", "(II)I"⟩
abbrev cX12_undo : ByteArray := prog_14_method_144_code
def yX12_undo : MethodName := ⟨RX12, "undo", "()I"⟩
abbrev cX12_anew : ByteArray := prog_14_method_145_code
def yX12_anew : MethodName := ⟨RX12, "anew", "()I"⟩
abbrev cX12_goDrawn : ByteArray := prog_14_method_146_code
def yX12_goDrawn : MethodName := ⟨RX12, "goDrawn", "(J)V"⟩
abbrev cX12_isSeed : ByteArray := prog_14_method_147_code
def yX12_isSeed : MethodName := ⟨RX12, "isSeed", "(I)Z"⟩
abbrev cX12_drawn : ByteArray := prog_14_method_148_code
def yX12_drawn : MethodName := ⟨RX12, "drawn", "(II)I"⟩
abbrev cX12_luck : ByteArray := prog_14_method_149_code
def yX12_luck : MethodName := ⟨RX12, "luck", "(III)I"⟩
abbrev cX12_rate : ByteArray := prog_14_method_150_code
def yX12_rate : MethodName := ⟨RX12, "rate", "(II)I"⟩
abbrev cX12_count : ByteArray := prog_14_method_151_code
def yX12_count : MethodName := ⟨RX12, "count", "(I)I"⟩
abbrev cX12_isSlot : ByteArray := prog_14_method_152_code
def yX12_isSlot : MethodName := ⟨RX12, "isSlot", "(I)Z"⟩
abbrev cX12_clipped : ByteArray := prog_14_method_153_code
def yX12_clipped : MethodName := ⟨RX12, "clipped", "(JI)J"⟩
abbrev cX12_row : ByteArray := prog_14_method_154_code
def yX12_row : MethodName := ⟨RX12, "row", "(III)I"⟩
abbrev cX12_write : ByteArray := prog_14_method_155_code
def yX12_write : MethodName := ⟨RX12, "write", "(IIJ)I"⟩
abbrev cX12_paste : ByteArray := prog_14_method_156_code
def yX12_paste : MethodName := ⟨RX12, "paste", "(IIIII)I"⟩
abbrev vwCl : List vw_C := [(RX0, TX0, 4), (RX1, TX1, 2), (RX2, TX2, 4), (RX3, TX3, 9), (RX4, TX4, 17), (RX5, TX5, 8), (RX6, TX6, 4), (RX7, TX7, 4), (RX8, TX8, 3), (RX9, TX9, 2), (RX10, TX10, 6), (RX11, TX11, 16), (RX12, TX12, 45)]
end
section
/-! ===== rows of numbers by runs ===== -/
def lk : List (Nat × AV) → Nat → Option AV
  | [], _ => none
  | (n, a) :: r, i => if i < n then some a else lk r (i - n)
def tot : List (Nat × AV) → Nat
  | [] => 0
  | (n, _) :: r => n + tot r
theorem lk_some : ∀ {sg : List (Nat × AV)} {i : Nat}, i < tot sg → ∃ a, lk sg i = some a
  | [], i, h => by simp [tot] at h
  | (n, a) :: r, i, h => by
    unfold lk
    split
    · exact ⟨a, rfl⟩
    · exact lk_some (sg := r) (by simp [tot] at h; omega)
theorem lk_lt : ∀ {sg : List (Nat × AV)} {i : Nat} {a : AV}, lk sg i = some a → i < tot sg
  | [], i, a, h => by cases h
  | (n, b) :: r, i, a, h => by
    unfold lk at h
    simp only [tot]
    split at h
    · omega
    · have := lk_lt (sg := r) h; omega
/-- the runs that reach into lo .. hi -/
def ovl (lo hi : Nat) : List (Nat × AV) → Nat → List AV
  | [], _ => []
  | (n, a) :: r, s => if s ≤ hi ∧ lo < s + n then a :: ovl lo hi r (s + n) else ovl lo hi r (s + n)
theorem ovl_mem {lo hi : Nat} : ∀ {sg : List (Nat × AV)} {s i : Nat} {a : AV}, s ≤ i → lo ≤ i → i ≤ hi → lk sg (i - s) = some a → a ∈ ovl lo hi sg s
  | [], s, i, a, _, _, _, h => by cases h
  | (n, b) :: r, s, i, a, h1, h2, h3, h => by
    unfold lk at h
    unfold ovl
    split at h
    · cases h
      rw [if_pos ⟨by omega, by omega⟩]
      exact List.mem_cons_self
    · have hm := ovl_mem (sg := r) (s := s + n) (i := i) (a := a) (by omega) h2 h3 (by rw [show i - (s + n) = i - s - n by omega]; exact h)
      split
      · exact List.mem_cons_of_mem _ hm
      · exact hm
def hulI (G : GI) : List AV → Option (Int × Int)
  | [] => none
  | [a] => ivI G a
  | a :: r => match ivI G a, hulI G r with
    | some p, some q => some (min p.1 q.1, max p.2 q.2)
    | _, _ => none
def hulL (G : GI) : List AV → Option (Int × Int)
  | [] => none
  | [a] => ivL G a
  | a :: r => match ivL G a, hulL G r with
    | some p, some q => some (min p.1 q.1, max p.2 q.2)
    | _, _ => none
theorem hulI_ok {G : GI} {g : List Int} {V : EV} {v : Value} {x : AV} (hG : GS G g) (hx : gam g V x v) : ∀ {xs : List AV} {q : Int × Int}, x ∈ xs → hulI G xs = some q → ∃ y : Int32, v = .int y ∧ inI q y.toInt
  | [], q, h, _ => by cases h
  | [a], q, h, hq => by
    have : x = a := List.mem_singleton.mp h
    subst this
    exact ivI_ok hG hx hq
  | a :: b :: r, q, h, hq => by
    unfold hulI at hq
    split at hq
    · rename_i p q' hp hq'
      cases hq
      rcases List.mem_cons.mp h with rfl | h
      · obtain ⟨y, h1, h2⟩ := ivI_ok hG hx hp
        unfold inI at h2
        exact ⟨y, h1, by unfold inI; simp only; omega⟩
      · obtain ⟨y, h1, h2⟩ := hulI_ok hG hx (xs := b :: r) h hq'
        unfold inI at h2
        exact ⟨y, h1, by unfold inI; simp only; omega⟩
    · cases hq
theorem hulL_ok {G : GI} {g : List Int} {V : EV} {v : Value} {x : AV} (hG : GS G g) (hx : gam g V x v) : ∀ {xs : List AV} {q : Int × Int}, x ∈ xs → hulL G xs = some q → ∃ y : Int64, v = .long y ∧ inI q y.toInt
  | [], q, h, _ => by cases h
  | [a], q, h, hq => by
    have : x = a := List.mem_singleton.mp h
    subst this
    exact ivL_ok hG hx hq
  | a :: b :: r, q, h, hq => by
    unfold hulL at hq
    split at hq
    · rename_i p q' hp hq'
      cases hq
      rcases List.mem_cons.mp h with rfl | h
      · obtain ⟨y, h1, h2⟩ := ivL_ok hG hx hp
        unfold inI at h2
        exact ⟨y, h1, by unfold inI; simp only; omega⟩
      · obtain ⟨y, h1, h2⟩ := hulL_ok hG hx (xs := b :: r) h hq'
        unfold inI at h2
        exact ⟨y, h1, by unfold inI; simp only; omega⟩
    · cases hq
/-- a value gets a name -/
def nam (G : GI) (a : AV) : Option (GI × AV) := match a.1 with
  | 2 => some (mk2 G (a.2.1, a.2.2))
  | 5 => some (mk5 G (a.2.1, a.2.2))
  | 8 => none
  | _ => some (G, a)
theorem nam_ok {G : GI} {g : List Int} {V : EV} {a : AV} {v : Value} {r : GI × AV} (hG : GS G g) (ha : gam g V a v) (hr : nam G a = some r) : ∃ g', gxt g g' ∧ GS r.1 g' ∧ gam g' V r.2 v := by
  obtain ⟨t, b, c⟩ := a
  unfold nam at hr
  split at hr
  · rename_i ht; simp only at ht; subst ht; cases hr
    obtain ⟨x, rfl, h2, h3⟩ := ha
    exact mk2_ok hG x ⟨h2, h3⟩
  · rename_i ht; simp only at ht; subst ht; cases hr
    obtain ⟨x, rfl, h2, h3⟩ := ha
    exact mk5_ok hG x ⟨h2, h3⟩
  · cases hr
  · cases hr; exact ⟨g, gxt_rf, hG, ha⟩
def rdA (G : GI) (sg : List (Nat × AV)) (lo hi : Nat) : Option (GI × AV) := match ovl lo hi sg 0 with
  | [x] => nam G x
  | xs => match hulI G xs with
    | some q => some (mk2 G q)
    | none => match hulL G xs with
      | some q => some (mk5 G q)
      | none => none
theorem rdA_ok {G : GI} {g : List Int} {V : EV} {sg : List (Nat × AV)} {lo hi i : Nat} {val : Nat → Value} {r : GI × AV} (hG : GS G g) (hv : ∀ (j : Nat) (a : AV), lk sg j = some a → gam g V a (val j)) (h1 : lo ≤ i) (h2 : i ≤ hi) (hi' : i < tot sg) (hr : rdA G sg lo hi = some r) : ∃ g', gxt g g' ∧ GS r.1 g' ∧ gam g' V r.2 (val i) := by
  obtain ⟨a, ha⟩ := lk_some hi'
  have hm : a ∈ ovl lo hi sg 0 := ovl_mem (Nat.zero_le i) h1 h2 ha
  have hg := hv i a ha
  unfold rdA at hr
  split at hr
  · rename_i x hx
    rw [hx] at hm
    have : a = x := List.mem_singleton.mp hm
    subst this
    exact nam_ok hG hg hr
  · split at hr
    · rename_i q hq
      cases hr
      obtain ⟨y, h3, h4⟩ := hulI_ok hG hg hm hq
      rw [h3]
      exact mk2_ok hG y h4
    · split at hr
      · rename_i q hq
        cases hr
        obtain ⟨y, h3, h4⟩ := hulL_ok hG hg hm hq
        rw [h3]
        exact mk5_ok hG y h4
      · cases hr
/-- one place is written -/
def stA : List (Nat × AV) → Nat → AV → List (Nat × AV)
  | [], _, _ => []
  | (n, a) :: r, i, x => if i < n then (if a = x then (n, a) :: r else (i, a) :: (1, x) :: (n - i - 1, a) :: r) else (n, a) :: stA r (i - n) x
theorem stA_tot : ∀ {sg : List (Nat × AV)} {i : Nat} {x : AV}, tot (stA sg i x) = tot sg
  | [], _, _ => rfl
  | (n, a) :: r, i, x => by
    unfold stA
    split
    · split
      · rfl
      · simp only [tot]; omega
    · simp only [tot]; rw [stA_tot (sg := r)]
theorem stA_lk : ∀ {sg : List (Nat × AV)} {i j : Nat} {x b : AV}, lk (stA sg i x) j = some b → (j = i ∧ b = x) ∨ (j ≠ i ∧ lk sg j = some b)
  | [], _, _, _, _, h => by cases h
  | (n, a) :: r, i, j, x, b, h => by
    unfold stA at h
    split at h
    · rename_i hin
      split at h
      · rename_i hax
        by_cases hji : j = i
        · subst hji
          unfold lk at h
          rw [if_pos hin] at h
          cases h
          exact Or.inl ⟨rfl, hax⟩
        · exact Or.inr ⟨hji, h⟩
      · unfold lk at h
        split at h
        · rename_i h1
          cases h
          exact Or.inr ⟨by omega, by unfold lk; rw [if_pos (by omega)]⟩
        · unfold lk at h
          split at h
          · cases h
            exact Or.inl ⟨by omega, rfl⟩
          · unfold lk at h
            refine Or.inr ⟨by omega, ?_⟩
            unfold lk
            split at h
            · rw [if_pos (by omega)]; exact h
            · rw [if_neg (by omega)]
              rw [show j - n = j - i - 1 - (n - i - 1) by omega]; exact h
    · rename_i hin
      unfold lk at h
      split at h
      · exact Or.inr ⟨by omega, by unfold lk; rw [if_pos (by omega)]; exact h⟩
      · rcases stA_lk (sg := r) h with ⟨h1, h2⟩ | ⟨h1, h2⟩
        · exact Or.inl ⟨by omega, h2⟩
        · exact Or.inr ⟨by omega, by unfold lk; rw [if_neg (by omega)]; exact h2⟩
/-- two values, or one: what holds of both -/
def joi (G : GI) (a x : AV) : Option AV := if a = x then some a else match ivI G a, ivI G x with
  | some p, some q => some (2, min p.1 q.1, max p.2 q.2)
  | _, _ => match ivL G a, ivL G x with
    | some p, some q => some (5, min p.1 q.1, max p.2 q.2)
    | _, _ => none
theorem joi_l {G : GI} {g : List Int} {V : EV} {a x b : AV} {v : Value} (hG : GS G g) (h : joi G a x = some b) (hv : gam g V a v) : gam g V b v := by
  unfold joi at h
  split at h
  · cases h; exact hv
  · split at h
    · rename_i p q hp hq
      cases h
      obtain ⟨y, h1, h2⟩ := ivI_ok hG hv hp
      unfold inI at h2
      exact ⟨y, h1, by simp only; omega, by simp only; omega⟩
    · split at h
      · rename_i p q hp hq
        cases h
        obtain ⟨y, h1, h2⟩ := ivL_ok hG hv hp
        unfold inI at h2
        exact ⟨y, h1, by simp only; omega, by simp only; omega⟩
      · cases h
theorem joi_r {G : GI} {g : List Int} {V : EV} {a x b : AV} {v : Value} (hG : GS G g) (h : joi G a x = some b) (hv : gam g V x v) : gam g V b v := by
  unfold joi at h
  split at h
  · rename_i hx; subst hx; cases h; exact hv
  · split at h
    · rename_i p q hp hq
      cases h
      obtain ⟨y, h1, h2⟩ := ivI_ok hG hv hq
      unfold inI at h2
      exact ⟨y, h1, by simp only; omega, by simp only; omega⟩
    · split at h
      · rename_i p q hp hq
        cases h
        obtain ⟨y, h1, h2⟩ := ivL_ok hG hv hq
        unfold inI at h2
        exact ⟨y, h1, by simp only; omega, by simp only; omega⟩
      · cases h
def wkA (G : GI) (x : AV) (lo hi : Nat) : List (Nat × AV) → Nat → Option (List (Nat × AV))
  | [], _ => some []
  | (n, a) :: r, s => match wkA G x lo hi r (s + n) with
    | none => none
    | some r' => if s ≤ hi ∧ lo < s + n then (match joi G a x with
      | some b => some ((n, b) :: r')
      | none => none) else some ((n, a) :: r')
theorem wkA_tot {G : GI} {x : AV} {lo hi : Nat} : ∀ {sg sg' : List (Nat × AV)} {s : Nat}, wkA G x lo hi sg s = some sg' → tot sg' = tot sg
  | [], _, _, h => by cases h; rfl
  | (n, a) :: r, sg', s, h => by
    unfold wkA at h
    split at h
    · cases h
    · rename_i r' hr'
      have := wkA_tot hr'
      split at h
      · split at h
        · cases h; simp only [tot]; omega
        · cases h
      · cases h; simp only [tot]; omega
theorem wkA_lk {G : GI} {g : List Int} {V : EV} {x : AV} {lo hi : Nat} {v : Value} (hG : GS G g) (hx : gam g V x v) : ∀ {sg sg' : List (Nat × AV)} {s : Nat} {val : Nat → Value}, (∀ (j : Nat) (a : AV), lk sg j = some a → gam g V a (val j)) → wkA G x lo hi sg s = some sg' → ∀ (j : Nat) (b : AV), lk sg' j = some b → gam g V b (val j) ∧ (lo ≤ s + j → s + j ≤ hi → gam g V b v)
  | [], _, _, _, _, h, j, b, hb => by cases h; cases hb
  | (n, a) :: r, sg', s, val, hv, h, j, b, hb => by
    unfold wkA at h
    split at h
    · cases h
    · rename_i r' hr'
      have ih := wkA_lk hG hx (sg := r) (sg' := r') (s := s + n) (val := fun j => val (j + n)) (fun j a ha => hv (j + n) a (by unfold lk; rw [if_neg (by omega), show j + n - n = j by omega]; exact ha)) hr'
      split at h
      · split at h
        · rename_i c hc
          cases h
          unfold lk at hb
          split at hb
          · cases hb
            rename_i hjn
            exact ⟨joi_l hG hc (hv j a (by unfold lk; rw [if_pos hjn])), fun _ _ => joi_r hG hc hx⟩
          · have := ih (j - n) b hb
            rw [show j - n + n = j by omega, show s + n + (j - n) = s + j by omega] at this
            exact this
        · cases h
      · rename_i hno
        cases h
        unfold lk at hb
        split at hb
        · cases hb
          rename_i hjn
          exact ⟨hv j a (by unfold lk; rw [if_pos hjn]), fun h1 h2 => absurd ⟨by omega, by omega⟩ hno⟩
        · have := ih (j - n) b hb
          rw [show j - n + n = j by omega, show s + n + (j - n) = s + j by omega] at this
          exact this
def wrA (G : GI) (sg : List (Nat × AV)) (lo hi : Nat) (x : AV) : Option (List (Nat × AV)) := if lo = hi then some (stA sg lo x) else wkA G x lo hi sg 0
theorem wrA_tot {G : GI} {sg sg' : List (Nat × AV)} {lo hi : Nat} {x : AV} (h : wrA G sg lo hi x = some sg') : tot sg' = tot sg := by
  unfold wrA at h
  split at h
  · cases h; exact stA_tot
  · exact wkA_tot h
theorem wrA_ok {G : GI} {g : List Int} {V : EV} {sg sg' : List (Nat × AV)} {lo hi i : Nat} {x : AV} {v : Value} {val val' : Nat → Value} (hG : GS G g) (hx : gam g V x v) (hv : ∀ (j : Nat) (a : AV), lk sg j = some a → gam g V a (val j)) (h1 : lo ≤ i) (h2 : i ≤ hi) (he : val' i = v) (ho : ∀ j, j ≠ i → val' j = val j) (h : wrA G sg lo hi x = some sg') : ∀ (j : Nat) (a : AV), lk sg' j = some a → gam g V a (val' j) := by
  intro j a ha
  unfold wrA at h
  split at h
  · cases h
    have hil : i = lo := by omega
    subst hil
    rcases stA_lk ha with ⟨rfl, rfl⟩ | ⟨h3, h4⟩
    · rw [he]; exact hx
    · rw [ho j h3]; exact hv j a h4
  · have := wkA_lk hG hx hv h j a ha
    by_cases hji : j = i
    · subst hji
      rw [he]; exact this.2 (by omega) (by omega)
    · rw [ho j hji]; exact this.1
end
section
/-! ===== cells, worlds, and what is less than what ===== -/
/-- a value now, as one of the start's (n names there) -/
def subV (n : Nat) (G : GI) (a b : AV) : Bool := match b.1 with
  | 0 => match ivI G a with
    | some p => decide (p.1 = b.2.1 ∧ p.2 = b.2.1)
    | none => false
  | 1 => decide (a = b ∧ b.2.1.toNat < n)
  | 2 => match ivI G a with
    | some p => decide (b.2.1 ≤ p.1 ∧ p.2 ≤ b.2.2)
    | none => false
  | 3 => match ivL G a with
    | some p => decide (p.1 = b.2.1 ∧ p.2 = b.2.1)
    | none => false
  | 4 => decide (a = b ∧ b.2.1.toNat < n)
  | 5 => match ivL G a with
    | some p => decide (b.2.1 ≤ p.1 ∧ p.2 ≤ b.2.2)
    | none => false
  | 6 => decide (a = b)
  | 7 => decide (a = b)
  | 8 => decide (a = b)
  | _ => false
theorem gam_cut {g g0 : List Int} {V : EV} {b : AV} {v : Value} (hx : gxt g0 g) (hn : b.1 = 1 ∨ b.1 = 4 → b.2.1.toNat < g0.length) (h : gam g V b v) : gam g0 V b v := by
  obtain ⟨t, x, y⟩ := b
  obtain ⟨e, rfl⟩ := hx
  unfold gam at h ⊢
  split at h
  · exact h
  · rename_i ht; simp only at ht
    obtain ⟨u, h1, z, h2, h3⟩ := h
    refine ⟨u, h1, z, ?_, h3⟩
    rw [List.getElem?_append_left (hn (Or.inl ht))] at h2
    exact h2
  · exact h
  · exact h
  · rename_i ht; simp only at ht
    obtain ⟨u, h1, z, h2, h3⟩ := h
    refine ⟨u, h1, z, ?_, h3⟩
    rw [List.getElem?_append_left (hn (Or.inr ht))] at h2
    exact h2
  · exact h
  · exact h
  · exact h
  · exact h
  · exact h
  · exact h.elim
theorem subV_ok {G : GI} {g g0 : List Int} {V : EV} {a b : AV} {v : Value} (hG : GS G g) (hx : gxt g0 g) (ha : gam g V a v) (h : subV g0.length G a b = true) : gam g0 V b v := by
  obtain ⟨t, b1, b2⟩ := b
  unfold subV at h
  split at h
  · rename_i ht; simp only at ht; subst ht
    split at h
    · rename_i p hp
      obtain ⟨x, h1, h2⟩ := ivI_ok hG ha hp
      have h := of_decide_eq_true h
      unfold inI at h2
      simp only at h
      exact ⟨x, h1, by simp only; omega⟩
    · cases h
  · rename_i ht; simp only at ht; subst ht
    have h := of_decide_eq_true h
    obtain ⟨rfl, h2⟩ := h
    exact gam_cut hx (fun _ => h2) ha
  · rename_i ht; simp only at ht; subst ht
    split at h
    · rename_i p hp
      obtain ⟨x, h1, h2⟩ := ivI_ok hG ha hp
      have h := of_decide_eq_true h
      unfold inI at h2
      simp only at h
      exact ⟨x, h1, by simp only; omega, by simp only; omega⟩
    · cases h
  · rename_i ht; simp only at ht; subst ht
    split at h
    · rename_i p hp
      obtain ⟨x, h1, h2⟩ := ivL_ok hG ha hp
      have h := of_decide_eq_true h
      unfold inI at h2
      simp only at h
      exact ⟨x, h1, by simp only; omega⟩
    · cases h
  · rename_i ht; simp only at ht; subst ht
    have h := of_decide_eq_true h
    obtain ⟨rfl, h2⟩ := h
    exact gam_cut hx (fun _ => h2) ha
  · rename_i ht; simp only at ht; subst ht
    split at h
    · rename_i p hp
      obtain ⟨x, h1, h2⟩ := ivL_ok hG ha hp
      have h := of_decide_eq_true h
      unfold inI at h2
      simp only at h
      exact ⟨x, h1, by simp only; omega, by simp only; omega⟩
    · cases h
  · rename_i ht; simp only at ht; subst ht
    have h := of_decide_eq_true h
    subst h
    exact gam_cut hx (fun q => by simp at q) ha
  · rename_i ht; simp only at ht; subst ht
    have h := of_decide_eq_true h
    subst h
    exact gam_cut hx (fun q => by simp at q) ha
  · rename_i ht; simp only at ht; subst ht
    have h := of_decide_eq_true h
    subst h
    exact gam_cut hx (fun q => by simp at q) ha
  · cases h
def subF (n : Nat) (G : GI) : List AV → List AV → Bool
  | [], [] => true
  | a :: as, b :: bs => subV n G a b && subF n G as bs
  | _, _ => false
theorem subF_ok {G : GI} {g g0 : List Int} {V : EV} (hG : GS G g) (hx : gxt g0 g) : ∀ {as bs : List AV} {vs : List Value}, zf2 (gam g V) as vs → subF g0.length G as bs = true → zf2 (gam g0 V) bs vs
  | [], [], [], _, _ => trivial
  | [], _ :: _, _, _, h => by simp [subF] at h
  | _ :: _, [], _, _, h => by simp [subF] at h
  | a :: as, b :: bs, [], hz, _ => hz.elim
  | a :: as, b :: bs, v :: vs, hz, h => by
    simp only [subF, Bool.and_eq_true] at h
    exact ⟨subV_ok hG hx hz.1 h.1, subF_ok hG hx hz.2 h.2⟩
def subS (n : Nat) (G : GI) : Nat → List (Nat × AV) → List (Nat × AV) → Bool
  | 0, _, _ => false
  | f + 1, s1, s2 => match s1, s2 with
    | [], [] => true
    | (n1, a) :: r1, (n2, b) :: r2 =>
      if n1 = 0 then subS n G f r1 ((n2, b) :: r2)
      else if n2 = 0 then subS n G f ((n1, a) :: r1) r2
      else subV n G a b && (if n1 = n2 then subS n G f r1 r2 else if n1 < n2 then subS n G f r1 ((n2 - n1, b) :: r2) else subS n G f ((n1 - n2, a) :: r1) r2)
    | (n1, _) :: r1, [] => if n1 = 0 then subS n G f r1 [] else false
    | [], (n2, _) :: r2 => if n2 = 0 then subS n G f [] r2 else false
theorem subS_ok {n : Nat} {G : GI} : ∀ {f : Nat} {s1 s2 : List (Nat × AV)}, subS n G f s1 s2 = true → tot s1 = tot s2 ∧ ∀ (j : Nat) (b : AV), lk s2 j = some b → ∃ a, lk s1 j = some a ∧ subV n G a b = true
  | 0, _, _, h => by simp [subS] at h
  | f + 1, s1, s2, h => by
    unfold subS at h
    split at h
    · exact ⟨rfl, fun j b hb => by cases hb⟩
    · rename_i n1 a r1 n2 b r2
      split at h
      · rename_i h0
        subst h0
        have ih := subS_ok h
        refine ⟨by simp only [tot] at ih ⊢; omega, fun j c hc => ?_⟩
        obtain ⟨d, h1, h2⟩ := ih.2 j c hc
        exact ⟨d, by unfold lk; rw [if_neg (by omega)]; exact h1, h2⟩
      · split at h
        · rename_i h0
          subst h0
          have ih := subS_ok h
          refine ⟨by simp only [tot] at ih ⊢; omega, fun j c hc => ?_⟩
          unfold lk at hc
          rw [if_neg (by omega)] at hc
          exact ih.2 j c hc
        · simp only [Bool.and_eq_true] at h
          obtain ⟨hv, h⟩ := h
          split at h
          · rename_i he
            subst he
            have ih := subS_ok h
            refine ⟨by simp only [tot] at ih ⊢; omega, fun j c hc => ?_⟩
            unfold lk at hc ⊢
            split at hc
            · cases hc
              rename_i hj
              exact ⟨a, by rw [if_pos hj], hv⟩
            · rename_i hj
              obtain ⟨d, h1, h2⟩ := ih.2 _ c hc
              exact ⟨d, by rw [if_neg hj]; exact h1, h2⟩
          · split at h
            · have ih := subS_ok h
              refine ⟨by simp only [tot] at ih ⊢; omega, fun j c hc => ?_⟩
              unfold lk at hc ⊢
              by_cases hj : j < n1
              · rw [if_pos (by omega)] at hc
                cases hc
                exact ⟨a, by rw [if_pos hj], hv⟩
              · rw [if_neg hj]
                refine ih.2 (j - n1) c ?_
                unfold lk
                split at hc
                · rw [if_pos (by omega)]; exact hc
                · rw [if_neg (by omega), show j - n1 - (n2 - n1) = j - n2 by omega]; exact hc
            · have ih := subS_ok h
              refine ⟨by simp only [tot] at ih ⊢; omega, fun j c hc => ?_⟩
              unfold lk at hc ⊢
              split at hc
              · cases hc
                exact ⟨a, by rw [if_pos (by omega)], hv⟩
              · obtain ⟨d, h1, h2⟩ := ih.2 _ c hc
                refine ⟨d, ?_, h2⟩
                unfold lk at h1
                split at h1
                · rw [if_pos (by omega)]; exact h1
                · rw [if_neg (by omega)]
                  rw [show j - n2 - (n1 - n2) = j - n1 by omega] at h1; exact h1
    · split at h
      · rename_i h0
        subst h0
        have ih := subS_ok h
        exact ⟨by simp only [tot] at ih ⊢; omega, fun j c hc => by cases hc⟩
      · cases h
    · split at h
      · rename_i h0
        subst h0
        have ih := subS_ok h
        refine ⟨by simp only [tot] at ih ⊢; omega, fun j c hc => ?_⟩
        unfold lk at hc
        rw [if_neg (by omega)] at hc
        exact ih.2 j c hc
      · cases h
/-- what a cell holds -/
def relC (g : List Int) (V : EV) (cA : Nat → ClassId) (a : AC) (e : va_E) : Prop := match a, e with
  | .inl o, .inr q => o.1 = q.1 ∧ zf2 (gam g V) o.2 q.2
  | .inr t, .inl (k, n, .inl f) => (t.1 = 0 ∨ t.1 = 1 ∨ t.1 = 3) ∧ k = cA t.1 ∧ n = tot t.2 ∧ n < 2 ^ 31 ∧ ∀ (i : Nat) (b : AV), lk t.2 i = some b → gam g V b (.int (f i))
  | .inr t, .inl (k, n, .inr (.inl f)) => t.1 = 2 ∧ k = cA t.1 ∧ n = tot t.2 ∧ n < 2 ^ 31 ∧ ∀ (i : Nat) (b : AV), lk t.2 i = some b → gam g V b (.long (f i))
  | .inr t, .inl (k, n, .inr (.inr (.inr (.inr f)))) => t.1 = 4 ∧ k = cA t.1 ∧ n = tot t.2 ∧ n < 2 ^ 31 ∧ ∀ (i : Nat) (b : AV), lk t.2 i = some b → gam g V b (va_rf (f i))
  | _, _ => False
theorem relC_ext {g g' : List Int} {V : EV} {cA : Nat → ClassId} {a : AC} {e : va_E} (hx : gxt g g') (h : relC g V cA a e) : relC g' V cA a e := by
  unfold relC at h ⊢
  split at h
  · exact ⟨h.1, zf2_mono (fun _ _ => gam_ext hx) h.2⟩
  · exact ⟨h.1, h.2.1, h.2.2.1, h.2.2.2.1, fun i b hb => gam_ext hx (h.2.2.2.2 i b hb)⟩
  · exact ⟨h.1, h.2.1, h.2.2.1, h.2.2.2.1, fun i b hb => gam_ext hx (h.2.2.2.2 i b hb)⟩
  · exact ⟨h.1, h.2.1, h.2.2.1, h.2.2.2.1, fun i b hb => gam_ext hx (h.2.2.2.2 i b hb)⟩
  · exact h.elim
def subC (n : Nat) (G : GI) (a b : AC) : Bool := match a, b with
  | .inl x, .inl y => decide (x.1 = y.1) && subF n G x.2 y.2
  | .inr x, .inr y => decide (x.1 = y.1) && subS n G (x.2.length + y.2.length + 1) x.2 y.2
  | _, _ => false
theorem subC_ok {G : GI} {g g0 : List Int} {V : EV} {cA : Nat → ClassId} {a b : AC} {e : va_E} (hG : GS G g) (hx : gxt g0 g) (ha : relC g V cA a e) (h : subC g0.length G a b = true) : relC g0 V cA b e := by
  unfold subC at h
  split at h
  · rename_i x y
    simp only [Bool.and_eq_true, decide_eq_true_eq] at h
    unfold relC at ha ⊢
    split at ha
    · rename_i o q hq
      cases hq
      exact ⟨h.1 ▸ ha.1, subF_ok hG hx ha.2 h.2⟩
    · rename_i hq; cases hq
    · rename_i hq; cases hq
    · rename_i hq; cases hq
    · exact ha.elim
  · rename_i x y
    simp only [Bool.and_eq_true, decide_eq_true_eq] at h
    have hs := subS_ok h.2
    unfold relC at ha ⊢
    split at ha
    · rename_i hq; cases hq
    · rename_i t k n f hq
      cases hq
      refine ⟨h.1 ▸ ha.1, h.1 ▸ ha.2.1, ha.2.2.1.trans hs.1, ha.2.2.2.1, fun i c hc => ?_⟩
      obtain ⟨d, h1, h2⟩ := hs.2 i c hc
      exact subV_ok hG hx (ha.2.2.2.2 i d h1) h2
    · rename_i t k n f hq
      cases hq
      refine ⟨h.1 ▸ ha.1, h.1 ▸ ha.2.1, ha.2.2.1.trans hs.1, ha.2.2.2.1, fun i c hc => ?_⟩
      obtain ⟨d, h1, h2⟩ := hs.2 i c hc
      exact subV_ok hG hx (ha.2.2.2.2 i d h1) h2
    · rename_i t k n f hq
      cases hq
      refine ⟨h.1 ▸ ha.1, h.1 ▸ ha.2.1, ha.2.2.1.trans hs.1, ha.2.2.2.1, fun i c hc => ?_⟩
      obtain ⟨d, h1, h2⟩ := hs.2 i c hc
      exact subV_ok hG hx (ha.2.2.2.2 i d h1) h2
    · exact ha.elim
  · cases h
/-- the world: addresses beside what they hold -/
def zw : List Nat → List va_E → va_W
  | a :: ad, e :: es => (a, e) :: zw ad es
  | _, _ => []
theorem zw_get : ∀ {ad : List Nat} {es : List va_E} {k a : Nat} {e : va_E}, ad[k]? = some a → es[k]? = some e → (zw ad es)[k]? = some (a, e)
  | [], _, _, _, _, h, _ => by simp at h
  | _ :: _, [], _, _, _, _, h => by simp at h
  | a :: ad, e :: es, 0, _, _, h, h' => by simp at h h'; subst h; subst h'; rfl
  | a :: ad, e :: es, k + 1, b, f, h, h' => by
    have := zw_get (ad := ad) (es := es) (k := k) (a := b) (e := f) (by simpa using h) (by simpa using h')
    simpa [zw] using this
theorem zw_inv : ∀ {ad : List Nat} {es : List va_E} {k : Nat} {q : Nat × va_E}, (zw ad es)[k]? = some q → ad[k]? = some q.1 ∧ es[k]? = some q.2
  | [], _, _, _, h => by simp [zw] at h
  | _ :: _, [], _, _, h => by simp [zw] at h
  | a :: ad, e :: es, 0, q, h => by simp [zw] at h; subst h; exact ⟨rfl, rfl⟩
  | a :: ad, e :: es, k + 1, q, h => by
    have := zw_inv (ad := ad) (es := es) (k := k) (q := q) (by simpa [zw] using h)
    simpa using this
theorem zw_set : ∀ {ad : List Nat} {es : List va_E} {k a : Nat} {e : va_E}, ad[k]? = some a → (zw ad es).set k (a, e) = zw ad (es.set k e)
  | [], _, _, _, _, h => by simp at h
  | _ :: _, [], k, _, _, _ => by cases k <;> simp [zw]
  | a :: ad, e :: es, 0, _, _, h => by simp at h; subst h; rfl
  | a :: ad, e :: es, k + 1, b, f, h => by
    have := zw_set (ad := ad) (es := es) (k := k) (a := b) (e := f) (by simpa using h)
    simp [zw, this]
end
section
/-! ===== the machine beside the interpreter ===== -/
abbrev HP : Type := List (Bool × AC)
abbrev AS : Type := Nat × List (Nat × AV) × List AV × GI × HP
def catA (a : AV) : Nat := if a.1 = 3 ∨ a.1 = 4 ∨ a.1 = 5 then 2 else 1
def locR (g : List Int) (V : EV) (x : Nat × AV) (y : Nat × Value) : Prop := x.1 = y.1 ∧ gam g V x.2 y.2 ∧ x.2.1 ≠ 8
def kep (hp : HP) (es0 es : List va_E) : Prop := ∀ (j : Nat) (q : Bool × AC), hp[j]? = some q → q.1 = false → es[j]? = es0[j]?
def tysA (cA : Nat → ClassId) : List (ClassId × FieldType) := [(cA 0, .byte), (cA 1, .int), (cA 2, .long), (cA 3, .boolean), (cA 4, .object "RookHusting$State")]
def HS (D : va_G) (cl : List vw_C) (A : Nat → Prop) (H0 : Heap) (V : EV) (cA : Nat → ClassId) (es0 : List va_E) (hp : HP) (g : List Int) (es : List va_E) (H : Heap) (locs : List Loc) : Prop :=
  zf2 (fun (x : Bool × AC) (y : va_E) => relC g V cA x.2 y) hp es ∧ kep hp es0 es ∧ va_P D cl (zw V.2 es) H ∧ va_D A (zw V.2 es) ∧ va_S A H0 H locs ∧ es.length = V.2.length
theorem HS_ext {D : va_G} {cl : List vw_C} {A : Nat → Prop} {H0 : Heap} {V : EV} {cA : Nat → ClassId} {es0 : List va_E} {hp : HP} {g g' : List Int} {es : List va_E} {H : Heap} {locs : List Loc} (hx : gxt g g') (h : HS D cl A H0 V cA es0 hp g es H locs) : HS D cl A H0 V cA es0 hp g' es H locs :=
  ⟨zf2_mono (fun _ _ => relC_ext hx) h.1, h.2⟩
theorem loc_ext {g g' : List Int} {V : EV} {loc : List (Nat × AV)} {lv : List (Nat × Value)} (hx : gxt g g') (h : zf2 (locR g V) loc lv) : zf2 (locR g' V) loc lv := zf2_mono (fun _ _ q => ⟨q.1, gam_ext hx q.2.1, q.2.2⟩) h
theorem st_ext {g g' : List Int} {V : EV} {st : List AV} {sv : List Value} (hx : gxt g g') (h : zf2 (gam g V) st sv) : zf2 (gam g' V) st sv := zf2_mono (fun _ _ => gam_ext hx) h
/-- all that the interpreter's state says -/
def WA (Wf : Heap → List Loc → JFrame → Prop) (m : MethodId) (nL : Nat) (D : va_G) (cl : List vw_C) (A : Nat → Prop) (H0 : Heap) (V : EV) (cA : Nat → ClassId) (es0 : List va_E) (g0 : List Int) (a : AS) : Prop :=
  ∀ (g : List Int) (lv : List (Nat × Value)) (sv : List Value) (es : List va_E) (ls : Array Slot) (H : Heap) (locs : List Loc), gxt g0 g → GS a.2.2.2.1 g → lv_has ls nL lv → zf2 (locR g V) a.2.1 lv → zf2 (gam g V) a.2.2.1 sv → HS D cl A H0 V cA es0 a.2.2.2.2 g es H locs → Wf H locs (F0 m a.1 ls sv)
theorem gam_int {g : List Int} {V : EV} {a : AV} {v : Value} (h : gam g V a v) (ht : a.1 ≤ 2) : ∃ x : Int32, v = .int x := by
  obtain ⟨t, b, c⟩ := a
  simp only at ht
  match t, ht, h with
  | 0, _, ⟨x, h, _⟩ => exact ⟨x, h⟩
  | 1, _, ⟨x, h, _⟩ => exact ⟨x, h⟩
  | 2, _, ⟨x, h, _⟩ => exact ⟨x, h⟩
theorem gam_long {g : List Int} {V : EV} {a : AV} {v : Value} (h : gam g V a v) (ht : 3 ≤ a.1 ∧ a.1 ≤ 5) : ∃ x : Int64, v = .long x := by
  obtain ⟨t, b, c⟩ := a
  simp only at ht
  match t, ht, h with
  | 3, _, ⟨x, h, _⟩ => exact ⟨x, h⟩
  | 4, _, ⟨x, h, _⟩ => exact ⟨x, h⟩
  | 5, _, ⟨x, h, _⟩ => exact ⟨x, h⟩
theorem gam_ref {g : List Int} {V : EV} {a : AV} {v : Value} (h : gam g V a v) (ht : a.1 = 6) : ∃ r : Nat, V.2[a.2.1.toNat]? = some r ∧ v = .ref r := by
  obtain ⟨t, b, c⟩ := a
  simp only at ht
  subst ht
  exact h
theorem gam_cat {g : List Int} {V : EV} {a : AV} {v : Value} (h : gam g V a v) (ht : a.1 ≠ 8) : v.category = catA a := by
  obtain ⟨t, b, c⟩ := a
  simp only at ht
  match t, ht, h with
  | 0, _, ⟨x, h, _⟩ => subst h; rfl
  | 1, _, ⟨x, h, _⟩ => subst h; rfl
  | 2, _, ⟨x, h, _⟩ => subst h; rfl
  | 3, _, ⟨x, h, _⟩ => subst h; rfl
  | 4, _, ⟨x, h, _⟩ => subst h; rfl
  | 5, _, ⟨x, h, _⟩ => subst h; rfl
  | 6, _, ⟨x, _, h⟩ => subst h; rfl
  | 7, _, h => cases h; rfl
  | 9, _, h => exact h.elim
  | 10, _, h => exact h.elim
  | 11, _, ⟨x, _, h⟩ => subst h; rfl
  | _ + 12, _, h => exact h.elim
def fnd : List (Nat × AV) → Nat → Option AV
  | [], _ => none
  | (k, a) :: r, i => if k = i then some a else fnd r i
theorem fnd_ok {g : List Int} {V : EV} : ∀ {loc : List (Nat × AV)} {lv : List (Nat × Value)} {i : Nat} {a : AV}, zf2 (locR g V) loc lv → fnd loc i = some a → ∃ (k : Nat) (v : Value), lv[k]? = some (i, v) ∧ gam g V a v ∧ a.1 ≠ 8
  | [], _, _, _, _, h => by cases h
  | (k, b) :: r, [], _, _, hz, _ => hz.elim
  | (k, b) :: r, y :: lv, i, a, hz, h => by
    unfold fnd at h
    split at h
    · rename_i hk
      cases h
      subst hk
      obtain ⟨h1, h2, h3⟩ := hz.1
      simp only at h1
      subst h1
      exact ⟨0, y.2, rfl, h2, h3⟩
    · obtain ⟨k', v, h1, h2⟩ := fnd_ok (loc := r) (lv := lv) hz.2 h
      exact ⟨k' + 1, v, by simpa using h1, h2⟩
def flt1 (i : Nat) (loc : List (Nat × AV)) : List (Nat × AV) := loc.filter (fun q => !(q.1 == i) && !(q.1 + 1 == i && catA q.2 == 2))
theorem zf2_filter {α β : Type} {R : α → β → Prop} {f : α → Bool} {h : β → Bool} (hf : ∀ a b, R a b → f a = h b) : ∀ {as : List α} {bs : List β}, zf2 R as bs → zf2 R (as.filter f) (bs.filter h)
  | [], [], _ => trivial
  | a :: as, b :: bs, hz => by
    have ih := zf2_filter hf (as := as) (bs := bs) hz.2
    have e := hf a b hz.1
    by_cases hb : h b = true
    · rw [List.filter_cons_of_pos (e.trans hb), List.filter_cons_of_pos hb]; exact ⟨hz.1, ih⟩
    · rw [List.filter_cons_of_neg (by rw [e]; exact hb), List.filter_cons_of_neg hb]; exact ih
theorem flt1_ok {g : List Int} {V : EV} {loc : List (Nat × AV)} {lv : List (Nat × Value)} (i : Nat) (h : zf2 (locR g V) loc lv) : zf2 (locR g V) (flt1 i loc) (lv.filter (fun q => !(q.1 == i) && !(q.1 + 1 == i && q.2.category == 2))) :=
  zf2_filter (fun a b r => by obtain ⟨h1, h2, h3⟩ := r; rw [h1, gam_cat h2 h3]) h
/-- the tables of a method: its instructions, its locals, its constants (ints, longs), the fields that it names (index, kind of object, place, 0 int 1 boolean 2 long that may be written, 9 not) -/
abbrev TB : Type := List (Nat × ClassFile.Instr × Nat) × Nat × List (Nat × Int32) × List (Nat × Int64) × List (Nat × Nat × Nat × Nat)
def look {β : Type} : List (Nat × β) → Nat → Option β
  | [], _ => none
  | (k, b) :: r, i => if k = i then some b else look r i
theorem look_mem {β : Type} : ∀ {l : List (Nat × β)} {i : Nat} {b : β}, look l i = some b → (i, b) ∈ l
  | [], _, _, h => by cases h
  | (k, c) :: r, i, b, h => by
    unfold look at h
    split at h
    · rename_i hk; cases h; subst hk; exact List.mem_cons_self
    · exact List.mem_cons_of_mem _ (look_mem h)
def psh (a : AS) (len : Nat) (r : GI × AV) : List AS := [(a.1 + len, a.2.1, r.2 :: a.2.2.1, r.1, a.2.2.2.2)]
def ldI (a : AS) (i len : Nat) : Option (List AS) := match fnd a.2.1 i with
  | some v => if v.1 ≤ 2 then some (psh a len (a.2.2.2.1, v)) else none
  | none => none
def ldL (a : AS) (i len : Nat) : Option (List AS) := match fnd a.2.1 i with
  | some v => if 3 ≤ v.1 ∧ v.1 ≤ 5 then some (psh a len (a.2.2.2.1, v)) else none
  | none => none
def ldR (a : AS) (i len : Nat) : Option (List AS) := match fnd a.2.1 i with
  | some v => if v.1 = 6 then some (psh a len (a.2.2.2.1, v)) else none
  | none => none
def stI (nL : Nat) (a : AS) (i len : Nat) : Option (List AS) := match a.2.2.1 with
  | v :: st => if v.1 ≤ 2 ∧ i < nL then some [(a.1 + len, (i, v) :: flt1 i a.2.1, st, a.2.2.2.1, a.2.2.2.2)] else none
  | [] => none
def bin (f : GI → AV → AV → Option (GI × AV)) (a : AS) : Option (List AS) := match a.2.2.1 with
  | y :: x :: st => if x.1 ≤ 2 ∧ y.1 ≤ 2 then (match f a.2.2.2.1 x y with
    | some r => some [(a.1 + 1, a.2.1, r.2 :: st, r.1, a.2.2.2.2)]
    | none => none) else none
  | _ => none
def posI (a : AS) : Bool := match a.2.2.1 with
  | y :: _ => match ivI a.2.2.2.1 y with
    | some q => decide (0 < q.1)
    | none => false
  | [] => false
def brs (k : Nat) (a : AS) (st : List AV) (x y : AV) (tgt nxt : Nat) : Option (List AS) := match rfI k a.2.2.2.1 x y, rfI (cmpN k) a.2.2.2.1 x y with
  | some L1, some L2 => some ((L1.map fun G => (tgt, a.2.1, st, G, a.2.2.2.2)) ++ (L2.map fun G => (nxt, a.2.1, st, G, a.2.2.2.2)))
  | _, _ => none
def if1 (k : Nat) (off : Int) (a : AS) : Option (List AS) := match a.2.2.1 with
  | x :: st => if 0 ≤ (a.1 : Int) + off then brs k a st x (0, 0, 0) ((a.1 : Int) + off).toNat (a.1 + 3) else none
  | _ => none
def if2 (k : Nat) (off : Int) (a : AS) : Option (List AS) := match a.2.2.1 with
  | y :: x :: st => if 0 ≤ (a.1 : Int) + off then brs k a st x y ((a.1 : Int) + off).toNat (a.1 + 3) else none
  | _ => none
def cnd : ClassFile.Cond → Nat
  | .eq => 0
  | .ne => 1
  | .lt => 2
  | .ge => 3
  | .gt => 4
  | .le => 5
/-- lcmp and the branch behind it -/
def lcb (T : TB) (a : AS) : Option (List AS) := match a.2.2.1, look T.1 (a.1 + 1) with
  | y :: x :: st, some (.ifCond q off, 3) =>
    if 0 ≤ (a.1 : Int) + 1 + off then (match rfL (cnd q) a.2.2.2.1 x y, rfL (cmpN (cnd q)) a.2.2.2.1 x y with
      | some L1, some L2 => some ((L1.map fun G => (((a.1 : Int) + 1 + off).toNat, a.2.1, st, G, a.2.2.2.2)) ++ (L2.map fun G => (a.1 + 1 + 3, a.2.1, st, G, a.2.2.2.2)))
      | _, _ => none) else none
  | _, _ => none
end
section
/-! ===== a step without the heap ===== -/
/-- a long of two longs (false), or of a long and an int (true): any -/
def lgt (b : Bool) (a : AS) : Option (List AS) := match a.2.2.1 with
  | y :: x :: st => if (3 ≤ x.1 ∧ x.1 ≤ 5) ∧ ((b = true ∧ y.1 ≤ 2) ∨ (b = false ∧ 3 ≤ y.1 ∧ y.1 ≤ 5)) then some [(a.1 + 1, a.2.1, (mk5 a.2.2.2.1 topL).2 :: st, (mk5 a.2.2.2.1 topL).1, a.2.2.2.2)] else none
  | _ => none
def stpA (T : TB) (ins : ClassFile.Instr) (len : Nat) (a : AS) : Option (List AS) := match ins with
  | .iconst n => if len = 1 ∧ -2147483648 ≤ n ∧ n ≤ 2147483647 then some (psh a 1 (a.2.2.2.1, (0, n, 0))) else none
  | .bipush n => if len = 2 ∧ -128 ≤ n ∧ n ≤ 127 then some (psh a 2 (a.2.2.2.1, (0, n, 0))) else none
  | .sipush n => if len = 3 ∧ -32768 ≤ n ∧ n ≤ 32767 then some (psh a 3 (a.2.2.2.1, (0, n, 0))) else none
  | .lconst n => if len = 1 then some (psh a 1 (a.2.2.2.1, (3, ((n : Nat) : Int), 0))) else none
  | .ldc i => if len = 2 then (match look T.2.2.1 i with
    | some v => some (psh a 2 (a.2.2.2.1, (0, v.toInt, 0)))
    | none => none) else none
  | .ldc2_w i => if len = 3 then (match look T.2.2.2.1 i with
    | some v => some (psh a 3 (a.2.2.2.1, (3, v.toInt, 0)))
    | none => none) else none
  | .iload_n k => if len = 1 then ldI a k 1 else none
  | .iload i => if len = 2 then ldI a i 2 else none
  | .lload_n k => if len = 1 then ldL a k 1 else none
  | .lload i => if len = 2 then ldL a i 2 else none
  | .aload_n k => if len = 1 then ldR a k 1 else none
  | .aload i => if len = 2 then ldR a i 2 else none
  | .istore_n k => if len = 1 then stI T.2.1 a k 1 else none
  | .istore i => if len = 2 then stI T.2.1 a i 2 else none
  | .iinc i n => if len = 3 ∧ i < T.2.1 ∧ -2147483648 ≤ n ∧ n ≤ 2147483647 then (match fnd a.2.1 i with
    | some v => if v.1 ≤ 2 then (match addI a.2.2.2.1 v (0, n, 0) with
      | some r => if r.2.1 ≤ 2 then some [(a.1 + 3, (i, r.2) :: flt1 i a.2.1, a.2.2.1, r.1, a.2.2.2.2)] else none
      | none => none) else none
    | none => none) else none
  | .iadd => if len = 1 then bin addI a else none
  | .isub => if len = 1 then bin subI a else none
  | .imul => if len = 1 then bin (binF mulF) a else none
  | .iand => if len = 1 then bin (binF andF) a else none
  | .ior => if len = 1 then bin (binF topF) a else none
  | .ixor => if len = 1 then bin (binF topF) a else none
  | .ishl => if len = 1 then bin (binF shlF) a else none
  | .ishr => if len = 1 then bin (binF shrF) a else none
  | .iushr => if len = 1 then bin (binF topF) a else none
  | .idiv => if len = 1 ∧ posI a = true then bin (binF divF) a else none
  | .irem => if len = 1 ∧ posI a = true then bin (binF remF) a else none
  | .i2l => if len = 1 then (match a.2.2.1 with
    | x :: st => (match i2lA x with
      | some r => some [(a.1 + 1, a.2.1, r :: st, a.2.2.2.1, a.2.2.2.2)]
      | none => none)
    | _ => none) else none
  | .i2b => if len = 1 then (match a.2.2.1 with
    | x :: st => if x.1 ≤ 2 then some [(a.1 + 1, a.2.1, (mk2 a.2.2.2.1 (-128, 127)).2 :: st, (mk2 a.2.2.2.1 (-128, 127)).1, a.2.2.2.2)] else none
    | _ => none) else none
  | .dup => if len = 1 then (match a.2.2.1 with
    | x :: st => if x.1 ≤ 2 ∨ x.1 = 6 then some [(a.1 + 1, a.2.1, x :: x :: st, a.2.2.2.1, a.2.2.2.2)] else none
    | _ => none) else none
  | .dup2 => if len = 1 then (match a.2.2.1 with
    | x :: y :: st => if (x.1 ≤ 2 ∨ x.1 = 6) ∧ (y.1 ≤ 2 ∨ y.1 = 6) then some [(a.1 + 1, a.2.1, x :: y :: x :: y :: st, a.2.2.2.1, a.2.2.2.2)] else none
    | _ => none) else none
  | .pop => if len = 1 then (match a.2.2.1 with
    | x :: st => if x.1 ≤ 2 ∨ x.1 = 6 then some [(a.1 + 1, a.2.1, st, a.2.2.2.1, a.2.2.2.2)] else none
    | _ => none) else none
  | .ifCond q off => if len = 3 then if1 (cnd q) off a else none
  | .if_icmp q off => if len = 3 then if2 (cnd q) off a else none
  | .goto off => if len = 3 ∧ 0 ≤ (a.1 : Int) + off then some [(((a.1 : Int) + off).toNat, a.2.1, a.2.2.1, a.2.2.2.1, a.2.2.2.2)] else none
  | .lcmp => if len = 1 then lcb T a else none
  | .land => if len = 1 then lgt false a else none
  | .lor => if len = 1 then lgt false a else none
  | .lshl => if len = 1 then lgt true a else none
  | _ => none
theorem WA_psh {Wf : Heap → List Loc → JFrame → Prop} {m : MethodId} {nL : Nat} {D : va_G} {cl : List vw_C} {A : Nat → Prop} {H0 : Heap} {V : EV} {cA : Nat → ClassId} {es0 : List va_E} {g0 : List Int} {a : AS} {len : Nat} {r : GI × AV} (hL : ∀ b ∈ psh a len r, WA Wf m nL D cl A H0 V cA es0 g0 b)
    {g g' : List Int} {lv : List (Nat × Value)} {sv : List Value} {es : List va_E} {ls : Array Slot} {H : Heap} {locs : List Loc} {v : Value} (h0 : gxt g0 g) (hlv : lv_has ls nL lv) (hl : zf2 (locR g V) a.2.1 lv) (hs : zf2 (gam g V) a.2.2.1 sv) (hH : HS D cl A H0 V cA es0 a.2.2.2.2 g es H locs) (hx : gxt g g') (hG : GS r.1 g') (hv : gam g' V r.2 v) : Wf H locs (F0 m (a.1 + len) ls (v :: sv)) :=
  hL _ (List.mem_singleton.mpr rfl) g' lv (v :: sv) es ls H locs (gxt_tr h0 hx) hG hlv (loc_ext hx hl) ⟨hv, st_ext hx hs⟩ (HS_ext hx hH)
theorem bin_ok {Wf : Heap → List Loc → JFrame → Prop} {m : MethodId} {nL : Nat} {D : va_G} {cl : List vw_C} {A : Nat → Prop} {H0 : Heap} {V : EV} {cA : Nat → ClassId} {es0 : List va_E} {g0 : List Int} {a : AS} {f : GI → AV → AV → Option (GI × AV)} {op : Int32 → Int32 → Int32} (hf : BinS f op) {L : List AS} (h : bin f a = some L) (hL : ∀ b ∈ L, WA Wf m nL D cl A H0 V cA es0 g0 b)
    (hrow : ∀ (x y : Int32) (sv : List Value) (ls : Array Slot) (H : Heap) (locs : List Loc), (∀ q, a.2.2.1.head?.bind (ivI a.2.2.2.1) = some q → inI q y.toInt) → Wf H locs (F0 m (a.1 + 1) ls (.int (op x y) :: sv)) → Wf H locs (F0 m a.1 ls (.int y :: .int x :: sv))) : WA Wf m nL D cl A H0 V cA es0 g0 a := by
  intro g lv sv es ls H locs h0 hG hlv hl hs hH
  unfold bin at h
  split at h
  · rename_i y x st hst
    split at h
    · rename_i ht
      split at h
      · rename_i r hr
        cases h
        rw [hst] at hs
        obtain ⟨vy, sv1, rfl, hy, hs1⟩ := zf2_cons hs
        obtain ⟨vx, sv2, rfl, hx, hs2⟩ := zf2_cons hs1
        obtain ⟨X, rfl⟩ := gam_int hx ht.1
        obtain ⟨Y, rfl⟩ := gam_int hy ht.2
        obtain ⟨g', e1, e2, e3⟩ := hf _ _ V _ _ _ _ _ hG hx hy hr
        refine hrow X Y sv2 ls H locs (fun q hq => ?_) ?_
        · rw [hst] at hq
          obtain ⟨z, e4, e5⟩ := ivI_ok hG hy (by simpa using hq)
          cases e4
          exact e5
        · exact hL _ (List.mem_singleton.mpr rfl) g' lv _ es ls H locs (gxt_tr h0 e1) e2 hlv (loc_ext e1 hl) ⟨e3, st_ext e1 hs2⟩ (HS_ext e1 hH)
      · cases h
    · cases h
  · cases h
theorem brs_ok {Wf : Heap → List Loc → JFrame → Prop} {m : MethodId} {nL : Nat} {D : va_G} {cl : List vw_C} {A : Nat → Prop} {H0 : Heap} {V : EV} {cA : Nat → ClassId} {es0 : List va_E} {g0 : List Int} {a : AS} {k : Nat} {st : List AV} {x y : AV} {tgt nxt : Nat} {L : List AS} (h : brs k a st x y tgt nxt = some L) (hL : ∀ b ∈ L, WA Wf m nL D cl A H0 V cA es0 g0 b)
    {g : List Int} {lv : List (Nat × Value)} {sv : List Value} {es : List va_E} {ls : Array Slot} {H : Heap} {locs : List Loc} {vx vy : Value} (h0 : gxt g0 g) (hG : GS a.2.2.2.1 g) (hlv : lv_has ls nL lv) (hl : zf2 (locR g V) a.2.1 lv) (hx : gam g V x vx) (hy : gam g V y vy) (hs : zf2 (gam g V) st sv) (hH : HS D cl A H0 V cA es0 a.2.2.2.2 g es H locs) :
    ∃ X Y : Int32, vx = .int X ∧ vy = .int Y ∧ (cmpH k X.toInt Y.toInt → Wf H locs (F0 m tgt ls sv)) ∧ (¬ cmpH k X.toInt Y.toInt → Wf H locs (F0 m nxt ls sv)) := by
  unfold brs at h
  split at h
  · rename_i L1 L2 h1 h2
    cases h
    obtain ⟨X, Y, e1, e2, e3⟩ := rfI_ok hG hx hy h1
    obtain ⟨X', Y', e4, e5, e6⟩ := rfI_ok hG hx hy h2
    subst e1; subst e2
    cases e4; cases e5
    refine ⟨X, Y, rfl, rfl, fun hc => ?_, fun hc => ?_⟩
    · obtain ⟨G', m1, m2⟩ := e3 hc
      exact hL _ (List.mem_append_left _ (List.mem_map.mpr ⟨G', m1, rfl⟩)) g lv sv es ls H locs h0 m2 hlv hl hs hH
    · obtain ⟨G', m1, m2⟩ := e6 (cmpN_ok hc)
      exact hL _ (List.mem_append_right _ (List.mem_map.mpr ⟨G', m1, rfl⟩)) g lv sv es ls H locs h0 m2 hlv hl hs hH
  · cases h
theorem ae_z : (0 : Int32).toInt = 0 := by decide
/-- what the tables of a method must be -/
def FOK (own : String) (cl : List vw_C) (Ts : List Jvm.Cond) (q : Nat × Nat × Nat × Nat) : Prop := ∃ (C : String) (F : u_T) (N : Nat) (ty : Nat → FieldType), cl[q.2.1]? = some (C, F, N) ∧ q.2.2.1 < N ∧ (∀ w ∈ u_ws C F N, w ∈ Ts) ∧ Jvm.Cond.fieldLink own q.1 (F q.2.2.1).1 (F q.2.2.1).2.1 (F q.2.2.1).2.2.1 ∈ Ts ∧ (∀ k, k < N → parseFieldDescriptor (F k).2.2.1 = some (ty k)) ∧ (∀ a, a < N → ∀ b, b < N → a ≠ b → (F a).2.1 ≠ (F b).2.1) ∧ (q.2.2.2 ≤ 2 → (F q.2.2.1).2.2.2 = false ∧ ty q.2.2.1 = (if q.2.2.2 = 0 then .int else if q.2.2.2 = 1 then .boolean else .long))
def TOK (own : String) (cl : List vw_C) (Ts : List Jvm.Cond) (cc : ByteArray) (T : TB) : Prop := (∀ q ∈ T.1, decode cc q.1 = .ok q.2) ∧ (∀ q ∈ T.2.2.1, Jvm.Cond.constant own q.1 q.2 ∈ Ts) ∧ (∀ q ∈ T.2.2.2.1, Jvm.Cond.constantLong own q.1 q.2 ∈ Ts) ∧ (∀ q ∈ T.2.2.2.2, FOK own cl Ts q)
end
section
/-! ===== a step without the heap is right ===== -/
section STA
variable {p : Program} {l : Launch} {e : Env} {R : Room} {s : State} {m : MethodId} {args : Array Value} {below : List Frame} {meth : Method} {c : Code} {cs0 ss0 : Nat} {Q : State → Prop} {cc : ByteArray} {own : String} {Ts : List Jvm.Cond} {D : va_G} {cl : List vw_C} {A : Nat → Prop} {H0 : Heap} {V : EV} {cA : Nat → ClassId} {es0 : List va_E} {g0 : List Int}
abbrev WW (p : Program) (l : Launch) (e : Env) (R : Room) (s : State) (m : MethodId) (args : Array Value) (below : List Frame) (meth : Method) (c : Code) (cs0 ss0 : Nat) (Q : State → Prop) : Heap → List Loc → JFrame → Prop := fun H locs g => W p l e R s m args below meth c H locs cs0 ss0 Q g
theorem ae_ofInt {n : Int} (h1 : -2147483648 ≤ n) (h2 : n ≤ 2147483647) : (Int32.ofInt n).toInt = n := by rw [Int32.toInt_ofInt, ae_bm h1 h2]
theorem ldI_ok {a : AS} {i len : Nat} {L : List AS} {nL : Nat} (h : ldI a i len = some L) (hL : ∀ b ∈ L, WA (WW p l e R s m args below meth c cs0 ss0 Q) m nL D cl A H0 V cA es0 g0 b)
    (hrow : ∀ (x : Int32) (sv : List Value) (ls : Array Slot) (H : Heap) (locs : List Loc), ls[i]? = some (.val (.int x)) → WW p l e R s m args below meth c cs0 ss0 Q H locs (F0 m (a.1 + len) ls (.int x :: sv)) → WW p l e R s m args below meth c cs0 ss0 Q H locs (F0 m a.1 ls sv)) : WA (WW p l e R s m args below meth c cs0 ss0 Q) m nL D cl A H0 V cA es0 g0 a := by
  intro g lv sv es ls H locs h0 hG hlv hl hs hH
  unfold ldI at h
  split at h
  · rename_i v hv
    split at h
    · rename_i ht
      cases h
      obtain ⟨k, w, h1, h2, h3⟩ := fnd_ok hl hv
      obtain ⟨x, rfl⟩ := gam_int h2 ht
      exact hrow x sv ls H locs (lv_at hlv k h1) (WA_psh hL h0 hlv hl hs hH gxt_rf hG h2)
    · cases h
  · cases h
theorem ldL_ok {a : AS} {i len : Nat} {L : List AS} {nL : Nat} (h : ldL a i len = some L) (hL : ∀ b ∈ L, WA (WW p l e R s m args below meth c cs0 ss0 Q) m nL D cl A H0 V cA es0 g0 b)
    (hrow : ∀ (x : Int64) (sv : List Value) (ls : Array Slot) (H : Heap) (locs : List Loc), ls[i]? = some (.val (.long x)) → WW p l e R s m args below meth c cs0 ss0 Q H locs (F0 m (a.1 + len) ls (.long x :: sv)) → WW p l e R s m args below meth c cs0 ss0 Q H locs (F0 m a.1 ls sv)) : WA (WW p l e R s m args below meth c cs0 ss0 Q) m nL D cl A H0 V cA es0 g0 a := by
  intro g lv sv es ls H locs h0 hG hlv hl hs hH
  unfold ldL at h
  split at h
  · rename_i v hv
    split at h
    · rename_i ht
      cases h
      obtain ⟨k, w, h1, h2, h3⟩ := fnd_ok hl hv
      obtain ⟨x, rfl⟩ := gam_long h2 ht
      exact hrow x sv ls H locs (lv_at hlv k h1) (WA_psh hL h0 hlv hl hs hH gxt_rf hG h2)
    · cases h
  · cases h
theorem ldR_ok {a : AS} {i len : Nat} {L : List AS} {nL : Nat} (h : ldR a i len = some L) (hL : ∀ b ∈ L, WA (WW p l e R s m args below meth c cs0 ss0 Q) m nL D cl A H0 V cA es0 g0 b)
    (hrow : ∀ (x : Nat) (sv : List Value) (ls : Array Slot) (H : Heap) (locs : List Loc), ls[i]? = some (.val (.ref x)) → WW p l e R s m args below meth c cs0 ss0 Q H locs (F0 m (a.1 + len) ls (.ref x :: sv)) → WW p l e R s m args below meth c cs0 ss0 Q H locs (F0 m a.1 ls sv)) : WA (WW p l e R s m args below meth c cs0 ss0 Q) m nL D cl A H0 V cA es0 g0 a := by
  intro g lv sv es ls H locs h0 hG hlv hl hs hH
  unfold ldR at h
  split at h
  · rename_i v hv
    split at h
    · rename_i ht
      cases h
      obtain ⟨k, w, h1, h2, h3⟩ := fnd_ok hl hv
      obtain ⟨x, h4, rfl⟩ := gam_ref h2 ht
      exact hrow x sv ls H locs (lv_at hlv k h1) (WA_psh hL h0 hlv hl hs hH gxt_rf hG h2)
    · cases h
  · cases h
theorem stI_ok {a : AS} {i len : Nat} {L : List AS} {nL : Nat} (h : stI nL a i len = some L) (hL : ∀ b ∈ L, WA (WW p l e R s m args below meth c cs0 ss0 Q) m nL D cl A H0 V cA es0 g0 b)
    (hrow : ∀ (x : Int32) (sv : List Value) (ls : Array Slot) (H : Heap) (locs : List Loc) (lv : List (Nat × Value)), lv_has ls nL lv → i < nL → (∀ ls' : Array Slot, lv_has ls' nL ((i, Value.int x) :: lv.filter (fun q => !(q.1 == i) && !(q.1 + 1 == i && q.2.category == 2))) → WW p l e R s m args below meth c cs0 ss0 Q H locs (F0 m (a.1 + len) ls' sv)) → WW p l e R s m args below meth c cs0 ss0 Q H locs (F0 m a.1 ls (.int x :: sv))) : WA (WW p l e R s m args below meth c cs0 ss0 Q) m nL D cl A H0 V cA es0 g0 a := by
  intro g lv sv es ls H locs h0 hG hlv hl hs hH
  unfold stI at h
  split at h
  · rename_i v st hst
    split at h
    · rename_i ht
      cases h
      rw [hst] at hs
      obtain ⟨w, sv1, rfl, h2, hs1⟩ := zf2_cons hs
      obtain ⟨x, rfl⟩ := gam_int h2 ht.1
      refine hrow x sv1 ls H locs lv hlv ht.2 (fun ls' hls' => ?_)
      exact hL _ (List.mem_singleton.mpr rfl) g _ sv1 es ls' H locs h0 hG hls' ⟨⟨rfl, h2, by show v.1 ≠ 8; have := ht.1; omega⟩, flt1_ok i hl⟩ hs1 hH
    · cases h
  · cases h
theorem ae_l0 : (Int64.ofNat 0).toInt = 0 := by decide
theorem ae_l1 : (Int64.ofNat 1).toInt = 1 := by decide
theorem ae_lt0 (x : Int32) : x < 0 ↔ x.toInt < 0 := by rw [Int32.lt_iff_toInt_lt, ae_z]
theorem ae_ge0 (x : Int32) : 0 ≤ x ↔ 0 ≤ x.toInt := by rw [Int32.le_iff_toInt_le, ae_z]
theorem ae_gt0 (x : Int32) : 0 < x ↔ 0 < x.toInt := by rw [Int32.lt_iff_toInt_lt, ae_z]
theorem ae_le0 (x : Int32) : x ≤ 0 ↔ x.toInt ≤ 0 := by rw [Int32.le_iff_toInt_le, ae_z]
theorem ae_eq0 (x : Int32) : x = 0 ↔ x.toInt = 0 := by rw [← Int32.toInt_inj, ae_z]
set_option maxHeartbeats 1000000 in
theorem if1_ok (hx : p.tables.exec = Jvm.exec) (hb : c.code = cc) {nL : Nat} {a : AS} {q : ClassFile.Cond} {off : Int} {L : List AS} (hd : decode cc a.1 = .ok (.ifCond q off, 3)) (h : if1 (cnd q) off a = some L) (hL : ∀ b ∈ L, WA (WW p l e R s m args below meth c cs0 ss0 Q) m nL D cl A H0 V cA es0 g0 b) : WA (WW p l e R s m args below meth c cs0 ss0 Q) m nL D cl A H0 V cA es0 g0 a := by
  intro g lv sv es ls H locs h0 hG hlv hl hs hH
  unfold if1 at h
  split at h
  · rename_i x st hst
    split at h
    · rename_i hp
      rw [hst] at hs
      obtain ⟨w, sv1, rfl, h2, hs1⟩ := zf2_cons hs
      obtain ⟨X, Y, rfl, hY, kt, kf⟩ := brs_ok h hL (vy := .int 0) h0 hG hlv hl h2 ⟨0, rfl, ae_z⟩ hs1 hH
      cases hY
      rw [ae_z] at kt kf
      have ht : (a.1 : Int) + off = ((((a.1 : Int) + off).toNat : Nat) : Int) := by omega
      cases q with
      | eq => exact lv_if_eq hx hb hd ht (fun hc => kt ((ae_eq0 X).mp hc)) (fun hc => kf (fun k => hc ((ae_eq0 X).mpr k)))
      | ne => exact lv_if_ne hx hb hd ht (fun hc => kt (fun k => hc ((ae_eq0 X).mpr k))) (fun hc => kf (fun k => k ((ae_eq0 X).mp hc)))
      | lt => exact lv_if_lt hx hb hd ht (fun hc => kt ((ae_lt0 X).mp hc)) (fun hc => kf (fun k => hc ((ae_lt0 X).mpr k)))
      | ge => exact lv_if_ge hx hb hd ht (fun hc => kt ((ae_ge0 X).mp hc)) (fun hc => kf (fun k => hc ((ae_ge0 X).mpr k)))
      | gt => exact lv_if_gt hx hb hd ht (fun hc => kt ((ae_gt0 X).mp hc)) (fun hc => kf (fun k => hc ((ae_gt0 X).mpr k)))
      | le => exact lv_if_le hx hb hd ht (fun hc => kt ((ae_le0 X).mp hc)) (fun hc => kf (fun k => hc ((ae_le0 X).mpr k)))
    · cases h
  · cases h
set_option maxHeartbeats 1000000 in
theorem if2_ok (hx : p.tables.exec = Jvm.exec) (hb : c.code = cc) {nL : Nat} {a : AS} {q : ClassFile.Cond} {off : Int} {L : List AS} (hd : decode cc a.1 = .ok (.if_icmp q off, 3)) (h : if2 (cnd q) off a = some L) (hL : ∀ b ∈ L, WA (WW p l e R s m args below meth c cs0 ss0 Q) m nL D cl A H0 V cA es0 g0 b) : WA (WW p l e R s m args below meth c cs0 ss0 Q) m nL D cl A H0 V cA es0 g0 a := by
  intro g lv sv es ls H locs h0 hG hlv hl hs hH
  unfold if2 at h
  split at h
  · rename_i y x st hst
    split at h
    · rename_i hp
      rw [hst] at hs
      obtain ⟨w, sv1, rfl, h2, hs1⟩ := zf2_cons hs
      obtain ⟨w2, sv2, rfl, h3, hs2⟩ := zf2_cons hs1
      obtain ⟨X, Y, rfl, rfl, kt, kf⟩ := brs_ok h hL h0 hG hlv hl h3 h2 hs2 hH
      have ht : (a.1 : Int) + off = ((((a.1 : Int) + off).toNat : Nat) : Int) := by omega
      cases q with
      | eq => exact lv_icmp_eq hx hb hd ht (fun hc => kt (Int32.toInt_inj.mpr hc)) (fun hc => kf (fun k => hc (Int32.toInt_inj.mp k)))
      | ne => exact lv_icmp_ne hx hb hd ht (fun hc => kt (fun k => hc (Int32.toInt_inj.mp k))) (fun hc => kf (fun k => k (Int32.toInt_inj.mpr hc)))
      | lt => exact lv_icmp_lt hx hb hd ht (fun hc => kt (Int32.lt_iff_toInt_lt.mp hc)) (fun hc => kf (fun k => hc (Int32.lt_iff_toInt_lt.mpr k)))
      | ge => exact lv_icmp_ge hx hb hd ht (fun hc => kt (Int32.le_iff_toInt_le.mp hc)) (fun hc => kf (fun k => hc (Int32.le_iff_toInt_le.mpr k)))
      | gt => exact lv_icmp_gt hx hb hd ht (fun hc => kt (Int32.lt_iff_toInt_lt.mp hc)) (fun hc => kf (fun k => hc (Int32.lt_iff_toInt_lt.mpr k)))
      | le => exact lv_icmp_le hx hb hd ht (fun hc => kt (Int32.le_iff_toInt_le.mp hc)) (fun hc => kf (fun k => hc (Int32.le_iff_toInt_le.mpr k)))
    · cases h
  · cases h
set_option maxHeartbeats 1000000 in
theorem lcb_ok (hx : p.tables.exec = Jvm.exec) (hb : c.code = cc) {nL : Nat} {T : TB} (hT : ∀ q ∈ T.1, decode cc q.1 = .ok q.2) {a : AS} {L : List AS} (hd : decode cc a.1 = .ok (.lcmp, 1)) (h : lcb T a = some L) (hL : ∀ b ∈ L, WA (WW p l e R s m args below meth c cs0 ss0 Q) m nL D cl A H0 V cA es0 g0 b) : WA (WW p l e R s m args below meth c cs0 ss0 Q) m nL D cl A H0 V cA es0 g0 a := by
  intro g lv sv es ls H locs h0 hG hlv hl hs hH
  unfold lcb at h
  split at h
  · rename_i y x st q off hst hlk
    split at h
    · rename_i hp
      split at h
      · rename_i L1 L2 h1 h2
        cases h
        rw [hst] at hs
        obtain ⟨w, sv1, rfl, g2, hs1⟩ := zf2_cons hs
        obtain ⟨w2, sv2, rfl, g3, hs2⟩ := zf2_cons hs1
        obtain ⟨X, Y, e1, e2, e3⟩ := rfL_ok hG g3 g2 h1
        obtain ⟨X', Y', e4, e5, e6⟩ := rfL_ok hG g3 g2 h2
        subst e1; subst e2
        cases e4; cases e5
        have kt : cmpH (cnd q) X.toInt Y.toInt → WW p l e R s m args below meth c cs0 ss0 Q H locs (F0 m (((a.1 : Int) + 1 + off).toNat) ls sv2) := fun hc => by
          obtain ⟨G', m1, m2⟩ := e3 hc
          exact hL _ (List.mem_append_left _ (List.mem_map.mpr ⟨G', m1, rfl⟩)) g lv sv2 es ls H locs h0 m2 hlv hl hs2 hH
        have kf : ¬ cmpH (cnd q) X.toInt Y.toInt → WW p l e R s m args below meth c cs0 ss0 Q H locs (F0 m (a.1 + 1 + 3) ls sv2) := fun hc => by
          obtain ⟨G', m1, m2⟩ := e6 (cmpN_ok hc)
          exact hL _ (List.mem_append_right _ (List.mem_map.mpr ⟨G', m1, rfl⟩)) g lv sv2 es ls H locs h0 m2 hlv hl hs2 hH
        have hd2 : decode cc (a.1 + 1) = .ok (.ifCond q off, 3) := hT (a.1 + 1, .ifCond q off, 3) (look_mem hlk)
        have ht : ((a.1 + 1 : Nat) : Int) + off = ((((a.1 : Int) + 1 + off).toNat : Nat) : Int) := by omega
        refine W.lcmp hx hb hd ?_
        cases q with
        | eq => exact lv_if_eq hx hb hd2 ht (fun hc => kt (Int64.toInt_inj.mpr ((lg_cmp_eq X Y).mp hc))) (fun hc => kf (fun k => hc ((lg_cmp_eq X Y).mpr (Int64.toInt_inj.mp k))))
        | ne => exact lv_if_ne hx hb hd2 ht (fun hc => kt (fun k => hc ((lg_cmp_eq X Y).mpr (Int64.toInt_inj.mp k)))) (fun hc => kf (fun k => k (Int64.toInt_inj.mpr ((lg_cmp_eq X Y).mp hc))))
        | lt => exact lv_if_lt hx hb hd2 ht (fun hc => kt (Int64.lt_iff_toInt_lt.mp ((lg_cmp_lt X Y).mp hc))) (fun hc => kf (fun k => hc ((lg_cmp_lt X Y).mpr (Int64.lt_iff_toInt_lt.mpr k))))
        | ge => exact lv_if_ge hx hb hd2 ht (fun hc => kt (Int64.le_iff_toInt_le.mp ((lg_cmp_ge X Y).mp hc))) (fun hc => kf (fun k => hc ((lg_cmp_ge X Y).mpr (Int64.le_iff_toInt_le.mpr k))))
        | gt => exact lv_if_gt hx hb hd2 ht (fun hc => kt (Int64.lt_iff_toInt_lt.mp ((lg_cmp_gt X Y).mp hc))) (fun hc => kf (fun k => hc ((lg_cmp_gt X Y).mpr (Int64.lt_iff_toInt_lt.mpr k))))
        | le => exact lv_if_le hx hb hd2 ht (fun hc => kt (Int64.le_iff_toInt_le.mp ((lg_cmp_le X Y).mp hc))) (fun hc => kf (fun k => hc ((lg_cmp_le X Y).mpr (Int64.le_iff_toInt_le.mpr k))))
      · cases h
    · cases h
  · cases h
theorem cat_ok {g : List Int} {a : AV} {v : Value} (h : gam g V a v) (ht : a.1 ≤ 2 ∨ a.1 = 6) : v.category = 1 := by
  rw [gam_cat h (by omega)]
  unfold catA
  rw [if_neg (by omega)]
theorem lgt_ok {nL : Nat} {a : AS} {b : Bool} {L : List AS} (h : lgt b a = some L) (hL : ∀ x ∈ L, WA (WW p l e R s m args below meth c cs0 ss0 Q) m nL D cl A H0 V cA es0 g0 x)
    (hrow : ∀ (x : Int64) (y : Value) (sv : List Value) (ls : Array Slot) (H : Heap) (locs : List Loc), (if b then ∃ z : Int32, y = .int z else ∃ z : Int64, y = .long z) → ∃ r : Int64, WW p l e R s m args below meth c cs0 ss0 Q H locs (F0 m (a.1 + 1) ls (.long r :: sv)) → WW p l e R s m args below meth c cs0 ss0 Q H locs (F0 m a.1 ls (y :: .long x :: sv))) : WA (WW p l e R s m args below meth c cs0 ss0 Q) m nL D cl A H0 V cA es0 g0 a := by
  intro g lv sv es ls H locs h0 hG hlv hl hs hH
  unfold lgt at h
  split at h
  · rename_i y x st hst
    split at h
    · rename_i ht
      cases h
      rw [hst] at hs
      obtain ⟨vy, sv1, rfl, hy, hs1⟩ := zf2_cons hs
      obtain ⟨vx, sv2, rfl, hx, hs2⟩ := zf2_cons hs1
      obtain ⟨X, rfl⟩ := gam_long hx ht.1
      obtain ⟨r, hk⟩ := hrow X vy sv2 ls H locs (by
        rcases ht.2 with ⟨rfl, h2⟩ | ⟨rfl, h2⟩
        · exact gam_int hy h2
        · exact gam_long hy h2)
      obtain ⟨g', e4, e5, e6⟩ := mk5_ok (V := V) hG r (topL_ok r)
      exact hk (hL _ (List.mem_singleton.mpr rfl) g' lv _ es ls H locs (gxt_tr h0 e4) e5 hlv (loc_ext e4 hl) ⟨e6, st_ext e4 hs2⟩ (HS_ext e4 hH))
    · cases h
  · cases h
set_option maxHeartbeats 4000000 in
theorem stpA_ok (hx : p.tables.exec = Jvm.exec) (hb : c.code = cc) (hown : s.vm.findClass own = some m.cls) (hts : ∀ w ∈ Ts, w.before args s = true) {T : TB} (hT : TOK own cl Ts cc T) {a : AS} {ins : ClassFile.Instr} {len : Nat} {L : List AS} (hd : decode cc a.1 = .ok (ins, len)) (h : stpA T ins len a = some L) (hL : ∀ b ∈ L, WA (WW p l e R s m args below meth c cs0 ss0 Q) m T.2.1 D cl A H0 V cA es0 g0 b) : WA (WW p l e R s m args below meth c cs0 ss0 Q) m T.2.1 D cl A H0 V cA es0 g0 a := by
  unfold stpA at h
  split at h
  · split at h
    · rename_i n hc; obtain ⟨rfl, h1, h2⟩ := hc; cases h
      intro g lv sv es ls H locs h0 hG hlv hl hs hH
      exact lv_iconst hx hb hd rfl (WA_psh hL h0 hlv hl hs hH gxt_rf hG ⟨_, rfl, ae_ofInt h1 h2⟩)
    · cases h
  · split at h
    · rename_i n hc; obtain ⟨rfl, h1, h2⟩ := hc; cases h
      intro g lv sv es ls H locs h0 hG hlv hl hs hH
      exact lv_bipush hx hb hd rfl (WA_psh hL h0 hlv hl hs hH gxt_rf hG ⟨_, rfl, by rw [Int8.toInt_toInt32, Int8.toInt_ofInt, show Int8.size = 256 from rfl, Int.bmod_eq_of_le (by omega) (by omega)]⟩)
    · cases h
  · split at h
    · rename_i n hc; obtain ⟨rfl, h1, h2⟩ := hc; cases h
      intro g lv sv es ls H locs h0 hG hlv hl hs hH
      exact lv_sipush hx hb hd rfl (WA_psh hL h0 hlv hl hs hH gxt_rf hG ⟨_, rfl, by rw [Int16.toInt_toInt32, Int16.toInt_ofInt, show Int16.size = 65536 from rfl, Int.bmod_eq_of_le (by omega) (by omega)]⟩)
    · cases h
  · split at h
    · rename_i n hc; subst hc; cases h
      intro g lv sv es ls H locs h0 hG hlv hl hs hH
      exact lv_lconst hx hb hd rfl (WA_psh hL h0 hlv hl hs hH gxt_rf hG ⟨_, rfl, by match n with | 0 => exact ae_l0 | 1 => exact ae_l1⟩)
    · cases h
  · split at h
    · rename_i i hc; subst hc
      split at h
      · rename_i v hv; cases h
        intro g lv sv es ls H locs h0 hG hlv hl hs hH
        exact lv_ldc hx hb hown (hts _ (hT.2.1 _ (look_mem hv))) hd (WA_psh hL h0 hlv hl hs hH gxt_rf hG ⟨_, rfl, rfl⟩)
      · cases h
    · cases h
  · split at h
    · rename_i i hc; subst hc
      split at h
      · rename_i v hv; cases h
        intro g lv sv es ls H locs h0 hG hlv hl hs hH
        exact lv_ldc2 hx hb hown (hts _ (hT.2.2.1 _ (look_mem hv))) hd (WA_psh hL h0 hlv hl hs hH gxt_rf hG ⟨_, rfl, rfl⟩)
      · cases h
    · cases h
  · split at h
    · rename_i k hc; subst hc
      exact ldI_ok h hL (fun x sv ls H locs h1 h2 => lv_iload_n hx hb hd rfl h1 h2)
    · cases h
  · split at h
    · rename_i k hc; subst hc
      exact ldI_ok h hL (fun x sv ls H locs h1 h2 => lv_iload hx hb hd h1 h2)
    · cases h
  · split at h
    · rename_i k hc; subst hc
      exact ldL_ok h hL (fun x sv ls H locs h1 h2 => lv_lload_n hx hb hd rfl h1 h2)
    · cases h
  · split at h
    · rename_i k hc; subst hc
      exact ldL_ok h hL (fun x sv ls H locs h1 h2 => lv_lload hx hb hd h1 h2)
    · cases h
  · split at h
    · rename_i k hc; subst hc
      exact ldR_ok h hL (fun x sv ls H locs h1 h2 => lv_aload_n hx hb hd rfl h1 h2)
    · cases h
  · split at h
    · rename_i k hc; subst hc
      exact ldR_ok h hL (fun x sv ls H locs h1 h2 => lv_aload hx hb hd h1 h2)
    · cases h
  · split at h
    · rename_i k hc; subst hc
      exact stI_ok h hL (fun x sv ls H locs lv h1 h2 h3 => lv_istore_n hx hb hd rfl h1 h2 rfl h3)
    · cases h
  · split at h
    · rename_i k hc; subst hc
      exact stI_ok h hL (fun x sv ls H locs lv h1 h2 h3 => lv_istore hx hb hd h1 h2 rfl h3)
    · cases h
  · split at h
    · rename_i i n hc; obtain ⟨rfl, hi, h1, h2⟩ := hc
      split at h
      · rename_i v hv
        split at h
        · rename_i ht
          split at h
          · rename_i r hr
            split at h
            · rename_i ht2
              cases h
              intro g lv sv es ls H locs h0 hG hlv hl hs hH
              obtain ⟨k, w, e1, e2, e3⟩ := fnd_ok hl hv
              obtain ⟨x, rfl⟩ := gam_int e2 ht
              obtain ⟨g', e4, e5, e6⟩ := addI_ok _ _ V _ (0, n, 0) x (Int32.ofInt n) _ hG e2 ⟨_, rfl, ae_ofInt h1 h2⟩ hr
              refine lv_iinc hx hb hd hlv e1 rfl hi rfl (fun ls' hls' => ?_)
              exact hL _ (List.mem_singleton.mpr rfl) g' _ sv es ls' H locs (gxt_tr h0 e4) e5 hls' ⟨⟨rfl, e6, by show r.2.1 ≠ 8; omega⟩, flt1_ok i (loc_ext e4 hl)⟩ (st_ext e4 hs) (HS_ext e4 hH)
            · cases h
          · cases h
        · cases h
      · cases h
    · cases h
  · split at h
    · rename_i hc; subst hc
      exact bin_ok addI_ok h hL (fun x y sv ls H locs _ k => lv_iadd hx hb hd k)
    · cases h
  · split at h
    · rename_i hc; subst hc
      exact bin_ok subI_ok h hL (fun x y sv ls H locs _ k => lv_isub hx hb hd k)
    · cases h
  · split at h
    · rename_i hc; subst hc
      exact bin_ok (binF_ok mulF_ok) h hL (fun x y sv ls H locs _ k => lv_imul hx hb hd k)
    · cases h
  · split at h
    · rename_i hc; subst hc
      exact bin_ok (binF_ok andF_ok) h hL (fun x y sv ls H locs _ k => lv_iand hx hb hd k)
    · cases h
  · split at h
    · rename_i hc; subst hc
      exact bin_ok (binF_ok (op := fun x y => x ||| y) topF_ok) h hL (fun x y sv ls H locs _ k => lv_ior hx hb hd k)
    · cases h
  · split at h
    · rename_i hc; subst hc
      exact bin_ok (binF_ok (op := fun x y => x ^^^ y) topF_ok) h hL (fun x y sv ls H locs _ k => lv_ixor hx hb hd k)
    · cases h
  · split at h
    · rename_i hc; subst hc
      exact bin_ok (binF_ok shlF_ok) h hL (fun x y sv ls H locs _ k => lv_ishl hx hb hd k)
    · cases h
  · split at h
    · rename_i hc; subst hc
      exact bin_ok (binF_ok shrF_ok) h hL (fun x y sv ls H locs _ k => lv_ishr hx hb hd k)
    · cases h
  · split at h
    · rename_i hc; subst hc
      exact bin_ok (binF_ok (op := fun x y => (x.toUInt32 >>> (y.toUInt32 &&& Int32.toUInt32 31)).toInt32) topF_ok) h hL (fun x y sv ls H locs _ k => lv_iushr hx hb hd rfl k)
    · cases h
  · split at h
    · rename_i hc; obtain ⟨rfl, hp⟩ := hc
      refine bin_ok (binF_ok divF_ok) h hL (fun x y sv ls H locs hy k => lv_idiv hx hb hd ?_ k)
      unfold posI at hp
      split at hp
      · rename_i z st hst
        split at hp
        · rename_i q hq
          have := hy q (by rw [hst]; simpa using hq)
          have hp := of_decide_eq_true hp
          unfold inI at this
          rw [ae_eq0]; omega
        · cases hp
      · cases hp
    · cases h
  · split at h
    · rename_i hc; obtain ⟨rfl, hp⟩ := hc
      refine bin_ok (binF_ok remF_ok) h hL (fun x y sv ls H locs hy k => lv_irem hx hb hd ?_ k)
      unfold posI at hp
      split at hp
      · rename_i z st hst
        split at hp
        · rename_i q hq
          have := hy q (by rw [hst]; simpa using hq)
          have hp := of_decide_eq_true hp
          unfold inI at this
          rw [ae_eq0]; omega
        · cases hp
      · cases hp
    · cases h
  · split at h
    · rename_i hc; subst hc
      split at h
      · rename_i x st hst
        split at h
        · rename_i r hr; cases h
          intro g lv sv es ls H locs h0 hG hlv hl hs hH
          rw [hst] at hs
          obtain ⟨w, sv1, rfl, g2, hs1⟩ := zf2_cons hs
          obtain ⟨X, rfl, h3⟩ := i2lA_ok g2 hr
          exact lv_i2l hx hb hd rfl (hL _ (List.mem_singleton.mpr rfl) g lv _ es ls H locs h0 hG hlv hl ⟨h3, hs1⟩ hH)
        · cases h
      · cases h
    · cases h
  · split at h
    · rename_i hc; subst hc
      split at h
      · rename_i x st hst
        split at h
        · rename_i ht; cases h
          intro g lv sv es ls H locs h0 hG hlv hl hs hH
          rw [hst] at hs
          obtain ⟨w, sv1, rfl, g2, hs1⟩ := zf2_cons hs
          obtain ⟨X, rfl⟩ := gam_int g2 ht
          obtain ⟨g', e4, e5, e6⟩ := mk2_ok (V := V) hG X.toInt8.toInt32 (ae_i2b X)
          exact lv_i2b hx hb hd rfl (hL _ (List.mem_singleton.mpr rfl) g' lv _ es ls H locs (gxt_tr h0 e4) e5 hlv (loc_ext e4 hl) ⟨e6, st_ext e4 hs1⟩ (HS_ext e4 hH))
        · cases h
      · cases h
    · cases h
  · split at h
    · rename_i hc; subst hc
      split at h
      · rename_i x st hst
        split at h
        · rename_i ht; cases h
          intro g lv sv es ls H locs h0 hG hlv hl hs hH
          rw [hst] at hs
          obtain ⟨w, sv1, rfl, g2, hs1⟩ := zf2_cons hs
          exact lv_dup hx hb hd (cat_ok g2 ht) (hL _ (List.mem_singleton.mpr rfl) g lv _ es ls H locs h0 hG hlv hl ⟨g2, g2, hs1⟩ hH)
        · cases h
      · cases h
    · cases h
  · split at h
    · rename_i hc; subst hc
      split at h
      · rename_i x y st hst
        split at h
        · rename_i ht; cases h
          intro g lv sv es ls H locs h0 hG hlv hl hs hH
          rw [hst] at hs
          obtain ⟨w, sv1, rfl, g2, hs1⟩ := zf2_cons hs
          obtain ⟨w2, sv2, rfl, g3, hs2⟩ := zf2_cons hs1
          exact lv_dup2_11 hx hb hd (cat_ok g2 ht.1) (cat_ok g3 ht.2) (hL _ (List.mem_singleton.mpr rfl) g lv _ es ls H locs h0 hG hlv hl ⟨g2, g3, g2, g3, hs2⟩ hH)
        · cases h
      · cases h
    · cases h
  · split at h
    · rename_i hc; subst hc
      split at h
      · rename_i x st hst
        split at h
        · rename_i ht; cases h
          intro g lv sv es ls H locs h0 hG hlv hl hs hH
          rw [hst] at hs
          obtain ⟨w, sv1, rfl, g2, hs1⟩ := zf2_cons hs
          exact lv_pop hx hb hd (cat_ok g2 ht) (hL _ (List.mem_singleton.mpr rfl) g lv _ es ls H locs h0 hG hlv hl hs1 hH)
        · cases h
      · cases h
    · cases h
  · split at h
    · rename_i hc; subst hc
      exact if1_ok hx hb hd h hL
    · cases h
  · split at h
    · rename_i hc; subst hc
      exact if2_ok hx hb hd h hL
    · cases h
  · split at h
    · rename_i off hc; obtain ⟨rfl, hp⟩ := hc; cases h
      intro g lv sv es ls H locs h0 hG hlv hl hs hH
      exact lv_goto hx hb hd (by omega : (a.1 : Int) + off = ((((a.1 : Int) + off).toNat : Nat) : Int)) (hL _ (List.mem_singleton.mpr rfl) g lv sv es ls H locs h0 hG hlv hl hs hH)
    · cases h
  · split at h
    · rename_i hc; subst hc
      exact lcb_ok hx hb hT.1 hd h hL
    · cases h
  · split at h
    · rename_i hc; subst hc
      refine lgt_ok h hL (fun x y sv ls H locs hy => ?_)
      obtain ⟨z, rfl⟩ := hy
      exact ⟨_, fun k => lv_land hx hb hd k⟩
    · cases h
  · split at h
    · rename_i hc; subst hc
      refine lgt_ok h hL (fun x y sv ls H locs hy => ?_)
      obtain ⟨z, rfl⟩ := hy
      exact ⟨_, fun k => lv_lor hx hb hd k⟩
    · cases h
  · split at h
    · rename_i hc; subst hc
      refine lgt_ok h hL (fun x y sv ls H locs hy => ?_)
      obtain ⟨z, rfl⟩ := hy
      exact ⟨_, fun k => lv_lshl hx hb hd rfl k⟩
    · cases h
  · cases h
end STA
end
section
/-! ===== a step on the heap ===== -/
def gfd (T : TB) (i : Nat) (a : AS) : Option (List AS) := match a.2.2.1, look T.2.2.2.2 i with
  | x :: st, some (ci, k, _) => if x.1 = 6 then (match a.2.2.2.2[x.2.1.toNat]? with
    | some (fl, .inl (cj, fs)) => if ci = cj then (match fs[k]? with
      | some v => (match nam a.2.2.2.1 v with
        | some r => some [(a.1 + 3, a.2.1, r.2 :: st, r.1, a.2.2.2.2.set x.2.1.toNat (fl, .inl (cj, fs.set k r.2)))]
        | none => none)
      | none => none) else none
    | _ => none) else none
  | _, _ => none
def okT (G : GI) (ty : Nat) (v : AV) : Bool := match ty with
  | 0 => decide (v.1 ≤ 2)
  | 1 => decide (v.1 ≤ 2) && (match ivI G v with
    | some q => decide (0 ≤ q.1 ∧ q.2 ≤ 1)
    | none => false)
  | 2 => decide (3 ≤ v.1 ∧ v.1 ≤ 5)
  | _ => false
def pfd (T : TB) (i : Nat) (a : AS) : Option (List AS) := match a.2.2.1, look T.2.2.2.2 i with
  | v :: x :: st, some (ci, k, ty) => if x.1 = 6 ∧ okT a.2.2.2.1 ty v = true then (match a.2.2.2.2[x.2.1.toNat]? with
    | some (_, .inl (cj, fs)) => if ci = cj ∧ k < fs.length then some [(a.1 + 3, a.2.1, st, a.2.2.2.1, a.2.2.2.2.set x.2.1.toNat (true, .inl (cj, fs.set k v)))] else none
    | _ => none) else none
  | _, _ => none
def ald (t0 t1 : Nat) (a : AS) : Option (List AS) := match a.2.2.1 with
  | i :: x :: st => if x.1 = 6 then (match a.2.2.2.2[x.2.1.toNat]?, ivI a.2.2.2.1 i with
    | some (_, .inr (t, sg)), some q => if (t = t0 ∨ t = t1) ∧ 0 ≤ q.1 ∧ q.2 < (tot sg : Int) then (match rdA a.2.2.2.1 sg q.1.toNat q.2.toNat with
      | some r => some [(a.1 + 1, a.2.1, r.2 :: st, r.1, a.2.2.2.2)]
      | none => none) else none
    | _, _ => none) else none
  | _ => none
/-- what is stored in a row of bytes (0), ints (1), longs (2), booleans (3) -/
def stv (G : GI) (t : Nat) (v : AV) : Option AV := match t with
  | 0 => if v.1 ≤ 2 then some (2, -128, 127) else none
  | 1 => if v.1 ≤ 2 then some v else none
  | 2 => if 3 ≤ v.1 ∧ v.1 ≤ 5 then some v else none
  | 3 => match ivI G v with
    | some q => if 0 ≤ q.1 ∧ q.2 ≤ 1 then some v else none
    | none => none
  | _ => none
def ast (t0 t1 : Nat) (a : AS) : Option (List AS) := match a.2.2.1 with
  | v :: i :: x :: st => if x.1 = 6 then (match a.2.2.2.2[x.2.1.toNat]?, ivI a.2.2.2.1 i with
    | some (_, .inr (t, sg)), some q => if (t = t0 ∨ t = t1) ∧ 0 ≤ q.1 ∧ q.2 < (tot sg : Int) then (match stv a.2.2.2.1 t v with
      | some w => (match wrA a.2.2.2.1 sg q.1.toNat q.2.toNat w with
        | some sg' => some [(a.1 + 1, a.2.1, st, a.2.2.2.1, a.2.2.2.2.set x.2.1.toNat (true, .inr (t, sg')))]
        | none => none)
      | none => none) else none
    | _, _ => none) else none
  | _ => none
def tsw (a : AS) (st : List AV) (x : AV) : List Int → Int → Option (List AS)
  | [], _ => some []
  | off :: r, v => match rfI 0 a.2.2.2.1 x (0, v, 0), tsw a st x r (v + 1) with
    | some L1, some L2 => if 0 ≤ (a.1 : Int) + off ∧ -2147483648 ≤ v ∧ v ≤ 2147483647 then some ((L1.map fun G => (((a.1 : Int) + off).toNat, a.2.1, st, G, a.2.2.2.2)) ++ L2) else none
    | _, _ => none
def tsd (a : AS) (dflt lo hi : Int) (offs : Array Int) : Option (List AS) := match a.2.2.1 with
  | x :: st => if -2147483648 ≤ lo ∧ lo ≤ hi ∧ hi ≤ 2147483647 ∧ hi - lo + 1 = (offs.toList.length : Int) ∧ 0 ≤ (a.1 : Int) + dflt then (match tsw a st x offs.toList lo, rfI 2 a.2.2.2.1 x (0, lo, 0), rfI 4 a.2.2.2.1 x (0, hi, 0) with
    | some L1, some L2, some L3 => some (L1 ++ ((L2 ++ L3).map fun G => (((a.1 : Int) + dflt).toNat, a.2.1, st, G, a.2.2.2.2)))
    | _, _, _ => none) else none
  | _ => none
/-- a reference out of a row of them: one way for each place -/
def alr (a : AS) (st : List AV) (i : AV) (sg : List (Nat × AV)) : Nat → Int → Option (List AS)
  | 0, _ => some []
  | n + 1, j => match rfI 0 a.2.2.2.1 i (0, j, 0), lk sg j.toNat, alr a st i sg n (j + 1) with
    | some L1, some v, some L2 => if v.1 = 6 ∧ 0 ≤ j ∧ j ≤ 2147483647 then some ((L1.map fun G => (a.1 + 1, a.2.1, v :: st, G, a.2.2.2.2)) ++ L2) else none
    | _, _, _ => none
def alR (a : AS) : Option (List AS) := match a.2.2.1 with
  | i :: x :: st => if x.1 = 6 then (match a.2.2.2.2[x.2.1.toNat]?, ivI a.2.2.2.1 i with
    | some (_, .inr (4, sg)), some q => if 0 ≤ q.1 ∧ q.2 < (tot sg : Int) then alr a st i sg (q.2 - q.1 + 1).toNat q.1 else none
    | _, _ => none) else none
  | _ => none
def stpH (T : TB) (ins : ClassFile.Instr) (len : Nat) (a : AS) : Option (List AS) := match ins with
  | .getfield i => if len = 3 then gfd T i a else none
  | .putfield i => if len = 3 then pfd T i a else none
  | .iaload => if len = 1 then ald 1 1 a else none
  | .baload => if len = 1 then ald 0 3 a else none
  | .laload => if len = 1 then ald 2 2 a else none
  | .aaload => if len = 1 then alR a else none
  | .iastore => if len = 1 then ast 1 1 a else none
  | .bastore => if len = 1 then ast 0 3 a else none
  | .lastore => if len = 1 then ast 2 2 a else none
  | .tableswitch dflt lo hi offs => tsd a dflt lo hi offs
  | _ => none
theorem kep_same {hp : HP} {es0 es : List va_E} {r : Nat} {fl : Bool} {c c' : AC} (h : kep hp es0 es) (hr : hp[r]? = some (fl, c)) : kep (hp.set r (fl, c')) es0 es := by
  intro j q hj hq
  by_cases hjr : r = j
  · subst hjr
    have hlt : r < hp.length := (List.getElem?_eq_some_iff.mp hr).1
    rw [List.getElem?_set_self hlt] at hj
    cases hj
    exact h r (fl, c) hr hq
  · rw [List.getElem?_set_ne hjr] at hj
    exact h j q hj hq
theorem kep_set {hp : HP} {es0 es : List va_E} {r : Nat} {c' : AC} {e' : va_E} (h : kep hp es0 es) : kep (hp.set r (true, c')) es0 (es.set r e') := by
  intro j q hj hq
  by_cases hjr : r = j
  · subst hjr
    by_cases hlt : r < hp.length
    · rw [List.getElem?_set_self hlt] at hj
      cases hj
      cases hq
    · rw [List.getElem?_eq_none (by simpa using hlt)] at hj
      cases hj
  · rw [List.getElem?_set_ne hjr] at hj
    rw [List.getElem?_set_ne hjr]
    exact h j q hj hq
/-- a cell that the interpreter knows, in the machine -/
theorem HS_get {D : va_G} {cl : List vw_C} {A : Nat → Prop} {H0 : Heap} {V : EV} {cA : Nat → ClassId} {es0 : List va_E} {hp : HP} {g : List Int} {es : List va_E} {H : Heap} {locs : List Loc} (h : HS D cl A H0 V cA es0 hp g es H locs) {x : AV} {v : Value} (hx : gam g V x v) (ht : x.1 = 6) {q : Bool × AC} (hq : hp[x.2.1.toNat]? = some q) : ∃ (r : Nat) (en : va_E), v = .ref r ∧ V.2[x.2.1.toNat]? = some r ∧ es[x.2.1.toNat]? = some en ∧ relC g V cA q.2 en ∧ (zw V.2 es)[x.2.1.toNat]? = some (r, en) := by
  obtain ⟨r, h1, h2⟩ := gam_ref hx ht
  obtain ⟨en, h3, h4⟩ := zf2_get h.1 hq
  exact ⟨r, en, h2, h1, h3, h4, zw_get h1 h3⟩
theorem HS_put {D : va_G} {cl : List vw_C} {A : Nat → Prop} {H0 : Heap} {V : EV} {cA : Nat → ClassId} {es0 : List va_E} {hp : HP} {g : List Int} {es : List va_E} {H H1 : Heap} {locs locs1 : List Loc} (h : HS D cl A H0 V cA es0 hp g es H locs) {k r : Nat} {c' : AC} {e' : va_E} (hr : V.2[k]? = some r) (hc : relC g V cA c' e') (h1 : va_P D cl ((zw V.2 es).set k (r, e')) H1) (h2 : va_D A ((zw V.2 es).set k (r, e'))) (h3 : va_S A H0 H1 locs1) : HS D cl A H0 V cA es0 (hp.set k (true, c')) g (es.set k e') H1 locs1 := by
  obtain ⟨a1, a2, a3, a4, a5, a6⟩ := h
  rw [zw_set hr] at h1 h2
  exact ⟨zf2_set (R := fun (x : Bool × AC) (y : va_E) => relC g V cA x.2 y) hc a1 k, kep_set a2, h1, h2, h3, by simpa using a6⟩
theorem relC_obj {g : List Int} {V : EV} {cA : Nat → ClassId} {ci : Nat} {fs : List AV} {e : va_E} (h : relC g V cA (.inl (ci, fs)) e) : ∃ vs, e = .inr (ci, vs) ∧ zf2 (gam g V) fs vs := by
  unfold relC at h
  split at h
  · rename_i o q hq
    cases hq
    obtain ⟨q1, q2⟩ := q
    simp only at h
    exact ⟨q2, by rw [h.1], h.2⟩
  · rename_i hq; cases hq
  · rename_i hq; cases hq
  · rename_i hq; cases hq
  · exact h.elim
theorem relC_arI {g : List Int} {V : EV} {cA : Nat → ClassId} {t : Nat} {sg : List (Nat × AV)} {e : va_E} (h : relC g V cA (.inr (t, sg)) e) (ht : t = 0 ∨ t = 1 ∨ t = 3) : ∃ f : Nat → Int32, e = .inl (cA t, tot sg, .inl f) ∧ tot sg < 2 ^ 31 ∧ ∀ (i : Nat) (b : AV), lk sg i = some b → gam g V b (.int (f i)) := by
  unfold relC at h
  split at h
  · rename_i hq; cases hq
  · rename_i t' k n f hq
    cases hq
    simp only at h
    obtain ⟨-, rfl, rfl, h4, h5⟩ := h
    exact ⟨f, rfl, h4, h5⟩
  · rename_i hq; cases hq; simp only at h; omega
  · rename_i hq; cases hq; simp only at h; omega
  · exact h.elim
theorem relC_arL {g : List Int} {V : EV} {cA : Nat → ClassId} {sg : List (Nat × AV)} {e : va_E} (h : relC g V cA (.inr (2, sg)) e) : ∃ f : Nat → Int64, e = .inl (cA 2, tot sg, .inr (.inl f)) ∧ tot sg < 2 ^ 31 ∧ ∀ (i : Nat) (b : AV), lk sg i = some b → gam g V b (.long (f i)) := by
  unfold relC at h
  split at h
  · rename_i hq; cases hq
  · rename_i hq; cases hq; simp only at h; omega
  · rename_i t' k n f hq
    cases hq
    simp only at h
    obtain ⟨-, rfl, rfl, h4, h5⟩ := h
    exact ⟨f, rfl, h4, h5⟩
  · rename_i hq; cases hq; simp only at h; omega
  · exact h.elim
theorem relC_arR {g : List Int} {V : EV} {cA : Nat → ClassId} {sg : List (Nat × AV)} {e : va_E} (h : relC g V cA (.inr (4, sg)) e) : ∃ f : Nat → Option Nat, e = .inl (cA 4, tot sg, .inr (.inr (.inr (.inr f)))) ∧ tot sg < 2 ^ 31 ∧ ∀ (i : Nat) (b : AV), lk sg i = some b → gam g V b (va_rf (f i)) := by
  unfold relC at h
  split at h
  · rename_i hq; cases hq
  · rename_i hq; cases hq; simp only at h; omega
  · rename_i hq; cases hq; simp only at h; omega
  · rename_i t' k n f hq
    cases hq
    simp only at h
    obtain ⟨-, rfl, rfl, h4, h5⟩ := h
    exact ⟨f, rfl, h4, h5⟩
  · exact h.elim
theorem ae_cl (i : Int32) : i.toNatClampNeg = i.toInt.toNat := rfl
end
section
/-! ===== a step on the heap is right ===== -/
section STH
variable {p : Program} {l : Launch} {e : Env} {R : Room} {s : State} {m : MethodId} {args : Array Value} {below : List Frame} {meth : Method} {c : Code} {cs0 ss0 : Nat} {Q : State → Prop} {cc : ByteArray} {own : String} {Ts : List Jvm.Cond} {D : va_G} {cl : List vw_C} {A : Nat → Prop} {H0 : Heap} {V : EV} {cA : Nat → ClassId} {es0 : List va_E} {g0 : List Int}
theorem ae_nb0 : narrow .boolean (.int 0) = .int 0 := rfl
theorem ae_b01 {x : Int32} (h1 : 0 ≤ x.toInt) (h2 : x.toInt ≤ 1) : x = 0 ∨ x = 1 := by
  rcases (show x.toInt = 0 ∨ x.toInt = 1 by omega) with h | h
  · exact Or.inl (Int32.toInt_inj.mp (h.trans ae_z.symm))
  · exact Or.inr (Int32.toInt_inj.mp (h.trans (by decide)))
theorem gfd_ok (hx : p.tables.exec = Jvm.exec) (hb : c.code = cc) (hown : s.vm.findClass own = some m.cls) (hts : ∀ w ∈ Ts, w.before args s = true) (hK : va_K D cl (tysA cA) s) {T : TB} (hT : TOK own cl Ts cc T) {nL : Nat} {a : AS} {i : Nat} {L : List AS} (hd : decode cc a.1 = .ok (.getfield i, 3)) (h : gfd T i a = some L) (hL : ∀ b ∈ L, WA (WW p l e R s m args below meth c cs0 ss0 Q) m nL D cl A H0 V cA es0 g0 b) : WA (WW p l e R s m args below meth c cs0 ss0 Q) m nL D cl A H0 V cA es0 g0 a := by
  intro g lv sv es ls H locs h0 hG hlv hl hs hH
  unfold gfd at h
  split at h
  · rename_i x st ci k ty hst hlk
    split at h
    · rename_i htg
      split at h
      · rename_i fl cj fs hcell
        split at h
        · rename_i hcc
          subst hcc
          split at h
          · rename_i v hv
            split at h
            · rename_i r hr
              cases h
              rw [hst] at hs
              obtain ⟨w, sv1, rfl, g2, hs1⟩ := zf2_cons hs
              obtain ⟨ad, en, rfl, e1, e2, e3, e4⟩ := HS_get hH g2 htg hcell
              obtain ⟨vs, rfl, e5⟩ := relC_obj e3
              obtain ⟨u, e6, e7⟩ := zf2_get e5 hv
              obtain ⟨g', x1, x2, x3⟩ := nam_ok hG e7 hr
              obtain ⟨C, F, N, tyf, f1, f2, f3, f4, f5, f6, f7⟩ := hT.2.2.2 _ (look_mem hlk)
              refine va_get (D := D) hx hb hts f3 hown hK hH.2.2.1 _ e4 f1 k f2 (hts _ f4) (fun _ h9 => h9) e6 hd ?_
              refine hL _ (List.mem_singleton.mpr rfl) g' lv _ es ls H locs (gxt_tr h0 x1) x2 hlv (loc_ext x1 hl) ⟨x3, st_ext x1 hs1⟩ ?_
              have hH' := HS_ext x1 hH
              refine ⟨zf2_setL (R := fun (x : Bool × AC) (y : va_E) => relC g' V cA x.2 y) (b := .inr (ci, vs)) ?_ hH'.1 e2, kep_same hH'.2.1 hcell, hH'.2.2⟩
              exact ⟨rfl, zf2_setL x3 (zf2_mono (fun _ _ => gam_ext x1) e5) e6⟩
            · cases h
          · cases h
        · cases h
      · cases h
    · cases h
  · cases h
theorem okT_ok {G : GI} {g : List Int} {ty : Nat} {v : AV} {w : Value} (hG : GS G g) (hv : gam g V v w) (h : okT G ty v = true) : ty ≤ 2 ∧ narrow (if ty = 0 then .int else if ty = 1 then .boolean else .long) w = w ∧ fits (if ty = 0 then .int else if ty = 1 then .boolean else .long) w = true := by
  unfold okT at h
  split at h
  · have h := of_decide_eq_true h
    obtain ⟨x, rfl⟩ := gam_int hv h
    exact ⟨by omega, rfl, rfl⟩
  · simp only [Bool.and_eq_true, decide_eq_true_eq] at h
    obtain ⟨h1, h2⟩ := h
    split at h2
    · rename_i q hq
      obtain ⟨x, rfl, h3⟩ := ivI_ok hG hv hq
      have h2 := of_decide_eq_true h2
      unfold inI at h3
      rcases ae_b01 (x := x) (by omega) (by omega) with rfl | rfl
      · exact ⟨by omega, rfl, rfl⟩
      · exact ⟨by omega, rfl, rfl⟩
    · cases h2
  · have h := of_decide_eq_true h
    obtain ⟨x, rfl⟩ := gam_long hv h
    exact ⟨by omega, rfl, rfl⟩
  · cases h
theorem pfd_ok (hx : p.tables.exec = Jvm.exec) (hb : c.code = cc) (hown : s.vm.findClass own = some m.cls) (hts : ∀ w ∈ Ts, w.before args s = true) (hK : va_K D cl (tysA cA) s) {T : TB} (hT : TOK own cl Ts cc T) {nL : Nat} {a : AS} {i : Nat} {L : List AS} (hd : decode cc a.1 = .ok (.putfield i, 3)) (h : pfd T i a = some L) (hL : ∀ b ∈ L, WA (WW p l e R s m args below meth c cs0 ss0 Q) m nL D cl A H0 V cA es0 g0 b) : WA (WW p l e R s m args below meth c cs0 ss0 Q) m nL D cl A H0 V cA es0 g0 a := by
  intro g lv sv es ls H locs h0 hG hlv hl hs hH
  unfold pfd at h
  split at h
  · rename_i v x st ci k ty hst hlk
    split at h
    · rename_i htg
      split at h
      · rename_i fl cj fs hcell
        split at h
        · rename_i hcc
          obtain ⟨rfl, hkl⟩ := hcc
          cases h
          rw [hst] at hs
          obtain ⟨w, sv1, rfl, g2, hs1⟩ := zf2_cons hs
          obtain ⟨w2, sv2, rfl, g3, hs2⟩ := zf2_cons hs1
          obtain ⟨ad, en, rfl, e1, e2, e3, e4⟩ := HS_get hH g3 htg.1 hcell
          obtain ⟨vs, rfl, e5⟩ := relC_obj e3
          obtain ⟨C, F, N, tyf, f1, f2, f3, f4, f5, f6, f7⟩ := hT.2.2.2 _ (look_mem hlk)
          obtain ⟨t1, t2, t3⟩ := okT_ok hG g2 htg.2
          obtain ⟨f8, f9⟩ := f7 t1
          simp only at f2 f8 f9
          refine va_put (D := D) hx hb hts f3 tyf f5 f6 hown hK hH.2.2.1 hH.2.2.2.1 hH.2.2.2.2.1 _ e4 f1 k f2 (hts _ f4) (fun _ h9 => h9) f8 (f5 k f2) (by rw [f9]; exact t2) (by rw [f9]; exact t3) (by rw [← zf2_len e5]; exact hkl) hd (fun H1 locs1 p1 d1 s1 => ?_)
          exact hL _ (List.mem_singleton.mpr rfl) g lv _ _ ls H1 locs1 h0 hG hlv hl hs2 (HS_put (c' := .inl (ci, fs.set k v)) (e' := .inr (ci, vs.set k w)) hH e1 ⟨rfl, zf2_set g2 e5 k⟩ p1 d1 s1)
        · cases h
      · cases h
    · cases h
  · cases h
theorem ald_ok {nL t0 t1 : Nat} {a : AS} {L : List AS} (h : ald t0 t1 a = some L) (hL : ∀ b ∈ L, WA (WW p l e R s m args below meth c cs0 ss0 Q) m nL D cl A H0 V cA es0 g0 b)
    (hrow : ∀ (t : Nat) (sg : List (Nat × AV)) (g : List Int) (es : List va_E) (k r : Nat) (en : va_E) (X : Int32) (sv : List Value) (ls : Array Slot) (H : Heap) (locs : List Loc), (t = t0 ∨ t = t1) → va_P D cl (zw V.2 es) H → (zw V.2 es)[k]? = some (r, en) → relC g V cA (.inr (t, sg)) en → vp_in X (tot sg) → ∃ val : Nat → Value, (∀ (i : Nat) (b : AV), lk sg i = some b → gam g V b (val i)) ∧ (WW p l e R s m args below meth c cs0 ss0 Q H locs (F0 m (a.1 + 1) ls (val X.toInt.toNat :: sv)) → WW p l e R s m args below meth c cs0 ss0 Q H locs (F0 m a.1 ls (.int X :: .ref r :: sv)))) : WA (WW p l e R s m args below meth c cs0 ss0 Q) m nL D cl A H0 V cA es0 g0 a := by
  intro g lv sv es ls H locs h0 hG hlv hl hs hH
  unfold ald at h
  split at h
  · rename_i i x st hst
    split at h
    · rename_i htg
      split at h
      · rename_i fl t sg q hcell hq
        split at h
        · rename_i hc
          split at h
          · rename_i r hr
            cases h
            rw [hst] at hs
            obtain ⟨w, sv1, rfl, g2, hs1⟩ := zf2_cons hs
            obtain ⟨w2, sv2, rfl, g3, hs2⟩ := zf2_cons hs1
            obtain ⟨ad, en, rfl, e1, e2, e3, e4⟩ := HS_get hH g3 htg hcell
            obtain ⟨X, rfl, e5⟩ := ivI_ok hG g2 hq
            unfold inI at e5
            obtain ⟨val, v1, v2⟩ := hrow t sg g es _ ad en X sv2 ls H locs hc.1 hH.2.2.1 e4 e3 (vp_in_iff.mpr ⟨by omega, by omega⟩)
            obtain ⟨g', x1, x2, x3⟩ := rdA_ok hG v1 (i := X.toInt.toNat) (by omega) (by omega) (by omega) hr
            exact v2 (hL _ (List.mem_singleton.mpr rfl) g' lv _ es ls H locs (gxt_tr h0 x1) x2 hlv (loc_ext x1 hl) ⟨x3, st_ext x1 hs2⟩ (HS_ext x1 hH))
          · cases h
        · cases h
      · cases h
    · cases h
  · cases h
theorem stv_ok {G : GI} {g : List Int} {t : Nat} {v w : AV} {u : Value} (hG : GS G g) (hv : gam g V v u) (h : stv G t v = some w) : (t = 0 ∧ ∃ x : Int32, u = .int x ∧ gam g V w (.int (vp_nar .byte x))) ∨ (t = 1 ∧ ∃ x : Int32, u = .int x ∧ gam g V w (.int x)) ∨ (t = 2 ∧ ∃ x : Int64, u = .long x ∧ gam g V w (.long x)) ∨ (t = 3 ∧ ∃ x : Int32, u = .int x ∧ gam g V w (.int (vp_nar .boolean x))) := by
  unfold stv at h
  split at h
  · split at h
    · rename_i ht
      cases h
      obtain ⟨x, rfl⟩ := gam_int hv ht
      exact Or.inl ⟨rfl, x, rfl, _, rfl, ae_i2b x⟩
    · cases h
  · split at h
    · rename_i ht
      cases h
      obtain ⟨x, rfl⟩ := gam_int hv ht
      exact Or.inr (Or.inl ⟨rfl, x, rfl, hv⟩)
    · cases h
  · split at h
    · rename_i ht
      cases h
      obtain ⟨x, rfl⟩ := gam_long hv ht
      exact Or.inr (Or.inr (Or.inl ⟨rfl, x, rfl, hv⟩))
    · cases h
  · split at h
    · rename_i q hq
      split at h
      · rename_i ht
        cases h
        obtain ⟨x, rfl, h3⟩ := ivI_ok hG hv hq
        unfold inI at h3
        refine Or.inr (Or.inr (Or.inr ⟨rfl, x, rfl, ?_⟩))
        rcases ae_b01 (x := x) (by omega) (by omega) with rfl | rfl
        · exact hv
        · exact hv
      · cases h
    · cases h
  · cases h
theorem upd_v {f : Nat → Int32} {i : Nat} {x : Int32} : (fun j => Value.int (upd f i x j)) i = .int x := by simp [upd]
theorem ast_ok (hK : va_K D cl (tysA cA) s) {nL t0 t1 : Nat} {a : AS} {L : List AS} (h : ast t0 t1 a = some L) (hL : ∀ b ∈ L, WA (WW p l e R s m args below meth c cs0 ss0 Q) m nL D cl A H0 V cA es0 g0 b)
    (hB : ∀ (f : Nat → Int32) (ws : va_W) (k r n : Nat) (X Y : Int32) (sv : List Value) (ls : Array Slot) (H : Heap) (locs : List Loc), (t0 = 0 ∨ t1 = 0) → va_P D cl ws H → va_D A ws → va_S A H0 H locs → ws[k]? = some (r, .inl (cA 0, n, .inl f)) → vp_in X n → (∀ (H1 : Heap) (locs1 : List Loc), va_P D cl (ws.set k (r, .inl (cA 0, n, .inl (upd f X.toNatClampNeg (vp_nar .byte Y))))) H1 → va_D A (ws.set k (r, .inl (cA 0, n, .inl (upd f X.toNatClampNeg (vp_nar .byte Y))))) → va_S A H0 H1 locs1 → WW p l e R s m args below meth c cs0 ss0 Q H1 locs1 (F0 m (a.1 + 1) ls sv)) → WW p l e R s m args below meth c cs0 ss0 Q H locs (F0 m a.1 ls (.int Y :: .int X :: .ref r :: sv)))
    (hI : ∀ (f : Nat → Int32) (ws : va_W) (k r n : Nat) (X Y : Int32) (sv : List Value) (ls : Array Slot) (H : Heap) (locs : List Loc), (t0 = 1 ∨ t1 = 1) → va_P D cl ws H → va_D A ws → va_S A H0 H locs → ws[k]? = some (r, .inl (cA 1, n, .inl f)) → vp_in X n → (∀ (H1 : Heap) (locs1 : List Loc), va_P D cl (ws.set k (r, .inl (cA 1, n, .inl (upd f X.toNatClampNeg Y)))) H1 → va_D A (ws.set k (r, .inl (cA 1, n, .inl (upd f X.toNatClampNeg Y)))) → va_S A H0 H1 locs1 → WW p l e R s m args below meth c cs0 ss0 Q H1 locs1 (F0 m (a.1 + 1) ls sv)) → WW p l e R s m args below meth c cs0 ss0 Q H locs (F0 m a.1 ls (.int Y :: .int X :: .ref r :: sv)))
    (hJ : ∀ (f : Nat → Int64) (ws : va_W) (k r n : Nat) (X : Int32) (Y : Int64) (sv : List Value) (ls : Array Slot) (H : Heap) (locs : List Loc), (t0 = 2 ∨ t1 = 2) → va_P D cl ws H → va_D A ws → va_S A H0 H locs → ws[k]? = some (r, .inl (cA 2, n, .inr (.inl f))) → vp_in X n → (∀ (H1 : Heap) (locs1 : List Loc), va_P D cl (ws.set k (r, .inl (cA 2, n, .inr (.inl (vp_updL f X.toNatClampNeg Y))))) H1 → va_D A (ws.set k (r, .inl (cA 2, n, .inr (.inl (vp_updL f X.toNatClampNeg Y))))) → va_S A H0 H1 locs1 → WW p l e R s m args below meth c cs0 ss0 Q H1 locs1 (F0 m (a.1 + 1) ls sv)) → WW p l e R s m args below meth c cs0 ss0 Q H locs (F0 m a.1 ls (.long Y :: .int X :: .ref r :: sv)))
    (hZ : ∀ (f : Nat → Int32) (ws : va_W) (k r n : Nat) (X Y : Int32) (sv : List Value) (ls : Array Slot) (H : Heap) (locs : List Loc), (t0 = 3 ∨ t1 = 3) → va_P D cl ws H → va_D A ws → va_S A H0 H locs → ws[k]? = some (r, .inl (cA 3, n, .inl f)) → vp_in X n → (∀ (H1 : Heap) (locs1 : List Loc), va_P D cl (ws.set k (r, .inl (cA 3, n, .inl (upd f X.toNatClampNeg (vp_nar .boolean Y))))) H1 → va_D A (ws.set k (r, .inl (cA 3, n, .inl (upd f X.toNatClampNeg (vp_nar .boolean Y))))) → va_S A H0 H1 locs1 → WW p l e R s m args below meth c cs0 ss0 Q H1 locs1 (F0 m (a.1 + 1) ls sv)) → WW p l e R s m args below meth c cs0 ss0 Q H locs (F0 m a.1 ls (.int Y :: .int X :: .ref r :: sv))) : WA (WW p l e R s m args below meth c cs0 ss0 Q) m nL D cl A H0 V cA es0 g0 a := by
  intro g lv sv es ls H locs h0 hG hlv hl hs hH
  unfold ast at h
  split at h
  · rename_i v i x st hst
    split at h
    · rename_i htg
      split at h
      · rename_i fl t sg q hcell hq
        split at h
        · rename_i hc
          split at h
          · rename_i w hw
            split at h
            · rename_i sg' hsg
              cases h
              rw [hst] at hs
              obtain ⟨w1, sv1, rfl, g1, hs1⟩ := zf2_cons hs
              obtain ⟨w2, sv2, rfl, g2, hs2⟩ := zf2_cons hs1
              obtain ⟨w3, sv3, rfl, g3, hs3⟩ := zf2_cons hs2
              obtain ⟨ad, en, rfl, e1, e2, e3, e4⟩ := HS_get hH g3 htg hcell
              obtain ⟨X, rfl, e5⟩ := ivI_ok hG g2 hq
              unfold inI at e5
              have hin : vp_in X (tot sg) := vp_in_iff.mpr ⟨by omega, by omega⟩
              have hto := wrA_tot hsg
              rcases stv_ok hG g1 hw with ⟨rfl, y, rfl, k1⟩ | ⟨rfl, y, rfl, k1⟩ | ⟨rfl, y, rfl, k1⟩ | ⟨rfl, y, rfl, k1⟩
              · obtain ⟨f, rfl, b1, b2⟩ := relC_arI e3 (Or.inl rfl)
                refine hB f _ _ ad _ X y sv3 ls H locs (by omega) hH.2.2.1 hH.2.2.2.1 hH.2.2.2.2.1 e4 hin (fun H1 locs1 p1 d1 s1 => ?_)
                refine hL _ (List.mem_singleton.mpr rfl) g lv _ _ ls H1 locs1 h0 hG hlv hl hs3 (HS_put hH e1 ?_ p1 d1 s1)
                exact ⟨Or.inl rfl, rfl, hto.symm, b1, wrA_ok (i := X.toNatClampNeg) (val := fun j => .int (f j)) (val' := fun j => .int (upd f X.toNatClampNeg (vp_nar .byte y) j)) hG k1 b2 (by rw [ae_cl]; omega) (by rw [ae_cl]; omega) upd_v (fun j hj => by simp [upd, hj]) hsg⟩
              · obtain ⟨f, rfl, b1, b2⟩ := relC_arI e3 (Or.inr (Or.inl rfl))
                refine hI f _ _ ad _ X y sv3 ls H locs (by omega) hH.2.2.1 hH.2.2.2.1 hH.2.2.2.2.1 e4 hin (fun H1 locs1 p1 d1 s1 => ?_)
                refine hL _ (List.mem_singleton.mpr rfl) g lv _ _ ls H1 locs1 h0 hG hlv hl hs3 (HS_put hH e1 ?_ p1 d1 s1)
                exact ⟨Or.inr (Or.inl rfl), rfl, hto.symm, b1, wrA_ok (i := X.toNatClampNeg) (val := fun j => .int (f j)) (val' := fun j => .int (upd f X.toNatClampNeg y j)) hG k1 b2 (by rw [ae_cl]; omega) (by rw [ae_cl]; omega) upd_v (fun j hj => by simp [upd, hj]) hsg⟩
              · obtain ⟨f, rfl, b1, b2⟩ := relC_arL e3
                refine hJ f _ _ ad _ X y sv3 ls H locs (by omega) hH.2.2.1 hH.2.2.2.1 hH.2.2.2.2.1 e4 hin (fun H1 locs1 p1 d1 s1 => ?_)
                refine hL _ (List.mem_singleton.mpr rfl) g lv _ _ ls H1 locs1 h0 hG hlv hl hs3 (HS_put hH e1 ?_ p1 d1 s1)
                exact ⟨rfl, rfl, hto.symm, b1, wrA_ok (i := X.toNatClampNeg) (val := fun j => .long (f j)) (val' := fun j => .long (vp_updL f X.toNatClampNeg y j)) hG k1 b2 (by rw [ae_cl]; omega) (by rw [ae_cl]; omega) (by simp [vp_updL]) (fun j hj => by simp [vp_updL, hj]) hsg⟩
              · obtain ⟨f, rfl, b1, b2⟩ := relC_arI e3 (Or.inr (Or.inr rfl))
                refine hZ f _ _ ad _ X y sv3 ls H locs (by omega) hH.2.2.1 hH.2.2.2.1 hH.2.2.2.2.1 e4 hin (fun H1 locs1 p1 d1 s1 => ?_)
                refine hL _ (List.mem_singleton.mpr rfl) g lv _ _ ls H1 locs1 h0 hG hlv hl hs3 (HS_put hH e1 ?_ p1 d1 s1)
                exact ⟨Or.inr (Or.inr rfl), rfl, hto.symm, b1, wrA_ok (i := X.toNatClampNeg) (val := fun j => .int (f j)) (val' := fun j => .int (upd f X.toNatClampNeg (vp_nar .boolean y) j)) hG k1 b2 (by rw [ae_cl]; omega) (by rw [ae_cl]; omega) upd_v (fun j hj => by simp [upd, hj]) hsg⟩
            · cases h
          · cases h
        · cases h
      · cases h
    · cases h
  · cases h
theorem tsw_ok {Wf : Heap → List Loc → JFrame → Prop} {nL : Nat} {a : AS} {st : List AV} {x : AV} {g : List Int} {X : Int32} (hG : GS a.2.2.2.1 g) (hx : gam g V x (.int X)) : ∀ {offs : List Int} {v : Int} {L : List AS}, tsw a st x offs v = some L → v ≤ X.toInt → X.toInt < v + offs.length → ∃ off G', offs[(X.toInt - v).toNat]? = some off ∧ 0 ≤ (a.1 : Int) + off ∧ (((a.1 : Int) + off).toNat, a.2.1, st, G', a.2.2.2.2) ∈ L ∧ GS G' g
  | [], v, L, _, h1, h2 => by simp at h2; omega
  | off :: r, v, L, h, h1, h2 => by
    unfold tsw at h
    split at h
    · rename_i L1 L2 q1 q2
      split at h
      · rename_i hc
        cases h
        by_cases hv : X.toInt = v
        · obtain ⟨X', Y, e1, e2, e3⟩ := rfI_ok hG hx (w := .int (Int32.ofInt v)) (show gam g V (0, v, 0) (.int (Int32.ofInt v)) from ⟨_, rfl, ae_ofInt hc.2.1 hc.2.2⟩) q1
          cases e1; cases e2
          obtain ⟨G', m1, m2⟩ := e3 (by rw [ae_ofInt hc.2.1 hc.2.2]; exact hv)
          exact ⟨off, G', by rw [hv]; simp, hc.1, List.mem_append_left _ (List.mem_map.mpr ⟨G', m1, rfl⟩), m2⟩
        · obtain ⟨off', G', e1, e2, e3, e4⟩ := tsw_ok (Wf := Wf) (nL := nL) hG hx q2 (by omega) (by simp at h2; omega)
          refine ⟨off', G', ?_, e2, List.mem_append_right _ e3, e4⟩
          rw [show (X.toInt - v).toNat = (X.toInt - (v + 1)).toNat + 1 by omega]
          simpa using e1
      · cases h
    · cases h
theorem tsd_ok (hx : p.tables.exec = Jvm.exec) (hb : c.code = cc) {nL : Nat} {a : AS} {dflt lo hi : Int} {offs : Array Int} {len : Nat} {L : List AS} (hd : decode cc a.1 = .ok (.tableswitch dflt lo hi offs, len)) (h : tsd a dflt lo hi offs = some L) (hL : ∀ b ∈ L, WA (WW p l e R s m args below meth c cs0 ss0 Q) m nL D cl A H0 V cA es0 g0 b) : WA (WW p l e R s m args below meth c cs0 ss0 Q) m nL D cl A H0 V cA es0 g0 a := by
  intro g lv sv es ls H locs h0 hG hlv hl hs hH
  unfold tsd at h
  split at h
  · rename_i x st hst
    split at h
    · rename_i hc
      split at h
      · rename_i L1 L2 L3 q1 q2 q3
        cases h
        rw [hst] at hs
        obtain ⟨w, sv1, rfl, g2, hs1⟩ := zf2_cons hs
        obtain ⟨X, Y, e1, e2, e3⟩ := rfI_ok hG g2 (w := .int (Int32.ofInt lo)) (show gam g V (0, lo, 0) (.int (Int32.ofInt lo)) from ⟨_, rfl, ae_ofInt (by omega) (by omega)⟩) q2
        obtain ⟨X', Z, e4, e5, e6⟩ := rfI_ok hG g2 (w := .int (Int32.ofInt hi)) (show gam g V (0, hi, 0) (.int (Int32.ofInt hi)) from ⟨_, rfl, ae_ofInt (by omega) (by omega)⟩) q3
        subst e1
        cases e4; cases e2; cases e5
        rw [ae_ofInt (by omega) (by omega)] at e3
        rw [ae_ofInt (by omega) (by omega)] at e6
        by_cases hlo : X.toInt < lo
        · obtain ⟨G', m1, m2⟩ := e3 hlo
          exact lv_tableOut hx hb hd (Or.inl hlo) (by omega : (a.1 : Int) + dflt = ((((a.1 : Int) + dflt).toNat : Nat) : Int)) (hL _ (List.mem_append_right _ (List.mem_map.mpr ⟨G', List.mem_append_left _ m1, rfl⟩)) g lv sv1 es ls H locs h0 m2 hlv hl hs1 hH)
        · by_cases hhi : hi < X.toInt
          · obtain ⟨G', m1, m2⟩ := e6 hhi
            exact lv_tableOut hx hb hd (Or.inr hhi) (by omega : (a.1 : Int) + dflt = ((((a.1 : Int) + dflt).toNat : Nat) : Int)) (hL _ (List.mem_append_right _ (List.mem_map.mpr ⟨G', List.mem_append_right _ m1, rfl⟩)) g lv sv1 es ls H locs h0 m2 hlv hl hs1 hH)
          · obtain ⟨off, G', t1, t2, t3, t4⟩ := tsw_ok (Wf := WW p l e R s m args below meth c cs0 ss0 Q) (nL := nL) hG g2 q1 (by omega) (by omega)
            exact lv_tableIn hx hb hd hlo hhi (by rw [← Array.getElem?_toList]; exact t1) (by omega : (a.1 : Int) + off = ((((a.1 : Int) + off).toNat : Nat) : Int)) (hL _ (List.mem_append_left _ t3) g lv sv1 es ls H locs h0 t4 hlv hl hs1 hH)
      · cases h
    · cases h
  · cases h
theorem alr_ok {a : AS} {st : List AV} {i : AV} {sg : List (Nat × AV)} {g : List Int} {X : Int32} (hG : GS a.2.2.2.1 g) (hi : gam g V i (.int X)) : ∀ {n : Nat} {j : Int} {L : List AS}, alr a st i sg n j = some L → j ≤ X.toInt → X.toInt < j + n → ∃ v G', lk sg X.toInt.toNat = some v ∧ v.1 = 6 ∧ (a.1 + 1, a.2.1, v :: st, G', a.2.2.2.2) ∈ L ∧ GS G' g
  | 0, j, L, _, h1, h2 => by simp at h2; omega
  | n + 1, j, L, h, h1, h2 => by
    unfold alr at h
    split at h
    · rename_i L1 v L2 q1 q2 q3
      split at h
      · rename_i hc
        cases h
        by_cases hv : X.toInt = j
        · obtain ⟨X', Y, e1, e2, e3⟩ := rfI_ok hG hi (w := .int (Int32.ofInt j)) (show gam g V (0, j, 0) (.int (Int32.ofInt j)) from ⟨_, rfl, ae_ofInt (by omega) hc.2.2⟩) q1
          cases e1; cases e2
          obtain ⟨G', m1, m2⟩ := e3 (by rw [ae_ofInt (by omega) hc.2.2]; exact hv)
          exact ⟨v, G', by rw [hv]; exact q2, hc.1, List.mem_append_left _ (List.mem_map.mpr ⟨G', m1, rfl⟩), m2⟩
        · obtain ⟨v', G', e1, e2, e3, e4⟩ := alr_ok hG hi q3 (by omega) (by push_cast at h2; omega)
          exact ⟨v', G', e1, e2, List.mem_append_right _ e3, e4⟩
      · cases h
    · cases h
theorem alR_ok (hx : p.tables.exec = Jvm.exec) (hb : c.code = cc) (hK : va_K D cl (tysA cA) s) {nL : Nat} {a : AS} {L : List AS} (hd : decode cc a.1 = .ok (.aaload, 1)) (h : alR a = some L) (hL : ∀ b ∈ L, WA (WW p l e R s m args below meth c cs0 ss0 Q) m nL D cl A H0 V cA es0 g0 b) : WA (WW p l e R s m args below meth c cs0 ss0 Q) m nL D cl A H0 V cA es0 g0 a := by
  intro g lv sv es ls H locs h0 hG hlv hl hs hH
  unfold alR at h
  split at h
  · rename_i i x st hst
    split at h
    · rename_i htg
      split at h
      · rename_i fl sg q hcell hq
        split at h
        · rename_i hc
          rw [hst] at hs
          obtain ⟨w, sv1, rfl, g2, hs1⟩ := zf2_cons hs
          obtain ⟨w2, sv2, rfl, g3, hs2⟩ := zf2_cons hs1
          obtain ⟨ad, en, rfl, e1, e2, e3, e4⟩ := HS_get hH g3 htg hcell
          obtain ⟨X, rfl, e5⟩ := ivI_ok hG g2 hq
          unfold inI at e5
          obtain ⟨f, rfl, b1, b2⟩ := relC_arR e3
          obtain ⟨v, G', r1, r2, r3, r4⟩ := alr_ok hG g2 h (by omega) (by omega)
          refine va_aldq hx hb hK hH.2.2.1 _ 4 e4 rfl (vp_in_iff.mpr ⟨by omega, by omega⟩) hd ?_
          exact hL _ r3 g lv _ es ls H locs h0 r4 hlv hl ⟨b2 _ v r1, hs2⟩ hH
        · cases h
      · cases h
    · cases h
  · cases h
theorem stpH_ok (hx : p.tables.exec = Jvm.exec) (hb : c.code = cc) (hown : s.vm.findClass own = some m.cls) (hts : ∀ w ∈ Ts, w.before args s = true) (hK : va_K D cl (tysA cA) s) {T : TB} (hT : TOK own cl Ts cc T) {nL : Nat} {a : AS} {ins : ClassFile.Instr} {len : Nat} {L : List AS} (hd : decode cc a.1 = .ok (ins, len)) (h : stpH T ins len a = some L) (hL : ∀ b ∈ L, WA (WW p l e R s m args below meth c cs0 ss0 Q) m nL D cl A H0 V cA es0 g0 b) : WA (WW p l e R s m args below meth c cs0 ss0 Q) m nL D cl A H0 V cA es0 g0 a := by
  unfold stpH at h
  split at h
  · split at h
    · rename_i i hc; subst hc
      exact gfd_ok hx hb hown hts hK hT hd h hL
    · cases h
  · split at h
    · rename_i i hc; subst hc
      exact pfd_ok hx hb hown hts hK hT hd h hL
    · cases h
  · split at h
    · rename_i hc; subst hc
      refine ald_ok h hL (fun t sg g es k r en X sv ls H locs ht hP he hr hin => ?_)
      have : t = 1 := by omega
      subst this
      obtain ⟨f, rfl, b1, b2⟩ := relC_arI hr (Or.inr (Or.inl rfl))
      exact ⟨fun j => .int (f j), b2, fun k9 => va_iald hx hb hK hP k 1 he rfl hin hd k9⟩
    · cases h
  · split at h
    · rename_i hc; subst hc
      refine ald_ok h hL (fun t sg g es k r en X sv ls H locs ht hP he hr hin => ?_)
      rcases ht with rfl | rfl
      · obtain ⟨f, rfl, b1, b2⟩ := relC_arI hr (Or.inl rfl)
        exact ⟨fun j => .int (f j), b2, fun k9 => va_bald hx hb hK hP k 0 he rfl hin hd k9⟩
      · obtain ⟨f, rfl, b1, b2⟩ := relC_arI hr (Or.inr (Or.inr rfl))
        exact ⟨fun j => .int (f j), b2, fun k9 => va_zald hx hb hK hP k 3 he rfl hin hd k9⟩
    · cases h
  · split at h
    · rename_i hc; subst hc
      refine ald_ok h hL (fun t sg g es k r en X sv ls H locs ht hP he hr hin => ?_)
      have : t = 2 := by omega
      subst this
      obtain ⟨f, rfl, b1, b2⟩ := relC_arL hr
      exact ⟨fun j => .long (f j), b2, fun k9 => va_lald hx hb hK hP k 2 he rfl hin hd k9⟩
    · cases h
  · split at h
    · rename_i hc; subst hc
      exact alR_ok hx hb hK hd h hL
    · cases h
  · split at h
    · rename_i hc; subst hc
      exact ast_ok hK h hL (fun f ws k r n X Y sv ls H locs ht _ _ _ _ _ _ => by omega) (fun f ws k r n X Y sv ls H locs ht hP hD hS he hin kk => va_iast hx hb hK hP hD hS k 1 he rfl hin hd kk) (fun f ws k r n X Y sv ls H locs ht _ _ _ _ _ _ => by omega) (fun f ws k r n X Y sv ls H locs ht _ _ _ _ _ _ => by omega)
    · cases h
  · split at h
    · rename_i hc; subst hc
      exact ast_ok hK h hL (fun f ws k r n X Y sv ls H locs ht hP hD hS he hin kk => va_bast hx hb hK hP hD hS k 0 he rfl hin hd kk) (fun f ws k r n X Y sv ls H locs ht _ _ _ _ _ _ => by omega) (fun f ws k r n X Y sv ls H locs ht _ _ _ _ _ _ => by omega) (fun f ws k r n X Y sv ls H locs ht hP hD hS he hin kk => va_zast hx hb hK hP hD hS k 3 he rfl hin hd kk)
    · cases h
  · split at h
    · rename_i hc; subst hc
      exact ast_ok hK h hL (fun f ws k r n X Y sv ls H locs ht _ _ _ _ _ _ => by omega) (fun f ws k r n X Y sv ls H locs ht _ _ _ _ _ _ => by omega) (fun f ws k r n X Y sv ls H locs ht hP hD hS he hin kk => va_last hx hb hK hP hD hS k 2 he rfl hin hd kk) (fun f ws k r n X Y sv ls H locs ht _ _ _ _ _ _ => by omega)
    · cases h
  · exact tsd_ok hx hb hd h hL
  · cases h
end STH
end
section
/-! ===== a call: the callee's cells among the caller's ===== -/
def gvl (c : AV) (v : Value) : Int := if c.1 = 1 ∨ c.1 = 4 then (numV v).getD 0 else 0
def zin (Gc : GI) (p : Nat) : Bool := match Gc[p]? with
  | some r => decide (r.1 ≤ 0 ∧ 0 ≤ r.2)
  | none => false
/-- the caller's value x where the callee's start has c, the p-th -/
def mt1 (σ : List Nat) (G Gc : GI) (p : Nat) (c x : AV) : Bool := match c.1 with
  | 0 => (match ivI G x with
    | some q => decide (q.1 = c.2.1 ∧ q.2 = c.2.1)
    | none => false) && zin Gc p
  | 1 => decide (c.2.1 = (p : Int) ∧ c.2.2 = 0) && (match ivI G x, Gc[p]? with
    | some q, some r => decide (r.1 ≤ q.1 ∧ q.2 ≤ r.2)
    | _, _ => false)
  | 2 => (match ivI G x with
    | some q => decide (c.2.1 ≤ q.1 ∧ q.2 ≤ c.2.2)
    | none => false) && zin Gc p
  | 3 => (match ivL G x with
    | some q => decide (q.1 = c.2.1 ∧ q.2 = c.2.1)
    | none => false) && zin Gc p
  | 4 => decide (c.2.1 = (p : Int) ∧ c.2.2 = 0) && (match ivL G x, Gc[p]? with
    | some q, some r => decide (r.1 ≤ q.1 ∧ q.2 ≤ r.2)
    | _, _ => false)
  | 5 => (match ivL G x with
    | some q => decide (c.2.1 ≤ q.1 ∧ q.2 ≤ c.2.2)
    | none => false) && zin Gc p
  | 6 => decide (x.1 = 6 ∧ σ[c.2.1.toNat]? = some x.2.1.toNat) && zin Gc p
  | 7 => decide (x.1 = 7) && zin Gc p
  | 8 => decide (c.2.1 = (p : Int)) && zin Gc p
  | _ => false
theorem zin_ok {Gc : GI} {p : Nat} (h : zin Gc p = true) : ∃ r, Gc[p]? = some r ∧ inI r 0 := by
  unfold zin at h
  split at h
  · rename_i r hr
    have h := of_decide_eq_true h
    exact ⟨r, hr, h.1, h.2⟩
  · cases h
theorem mt1_ok {σ : List Nat} {G Gc : GI} {g ga : List Int} {V : EV} {va : List Value} {ac : List Nat} {p : Nat} {c x : AV} {v : Value} (hG : GS G g) (hx : gam g V x v) (h : mt1 σ G Gc p c x = true) (hv : va[p]? = some v) (hg : ga[p]? = some (gvl c v)) (hac : ∀ (r i : Nat), σ[r]? = some i → ac[r]? = V.2[i]?) : gam ga (va, ac) c v ∧ ∃ r, Gc[p]? = some r ∧ inI r (gvl c v) := by
  obtain ⟨t, c1, c2⟩ := c
  unfold mt1 at h
  split at h
  · rename_i ht; simp only at ht; subst ht
    simp only [Bool.and_eq_true] at h
    obtain ⟨h1, h2⟩ := h
    split at h1
    · rename_i q hq
      have h1 := of_decide_eq_true h1
      obtain ⟨y, e1, e2⟩ := ivI_ok hG hx hq
      unfold inI at e2
      exact ⟨⟨y, e1, by simp only; omega⟩, zin_ok h2⟩
    · cases h1
  · rename_i ht; simp only at ht; subst ht
    simp only [Bool.and_eq_true, decide_eq_true_eq] at h
    obtain ⟨⟨h1, h3⟩, h2⟩ := h
    split at h2
    · rename_i q r hq hr
      have h2 := of_decide_eq_true h2
      obtain ⟨y, e1, e2⟩ := ivI_ok hG hx hq
      unfold inI at e2
      subst e1
      have hgv : gvl (1, c1, c2) (.int y) = y.toInt := rfl
      rw [hgv] at hg ⊢
      refine ⟨⟨y, rfl, y.toInt, ?_, ?_⟩, r, hr, by unfold inI; omega⟩
      · simp only [h1, Int.toNat_natCast]; exact hg
      · simp only [h3]; omega
    · cases h2
  · rename_i ht; simp only at ht; subst ht
    simp only [Bool.and_eq_true] at h
    obtain ⟨h1, h2⟩ := h
    split at h1
    · rename_i q hq
      have h1 := of_decide_eq_true h1
      obtain ⟨y, e1, e2⟩ := ivI_ok hG hx hq
      unfold inI at e2
      exact ⟨⟨y, e1, by simp only; omega, by simp only; omega⟩, zin_ok h2⟩
    · cases h1
  · rename_i ht; simp only at ht; subst ht
    simp only [Bool.and_eq_true] at h
    obtain ⟨h1, h2⟩ := h
    split at h1
    · rename_i q hq
      have h1 := of_decide_eq_true h1
      obtain ⟨y, e1, e2⟩ := ivL_ok hG hx hq
      unfold inI at e2
      exact ⟨⟨y, e1, by simp only; omega⟩, zin_ok h2⟩
    · cases h1
  · rename_i ht; simp only at ht; subst ht
    simp only [Bool.and_eq_true, decide_eq_true_eq] at h
    obtain ⟨⟨h1, h3⟩, h2⟩ := h
    split at h2
    · rename_i q r hq hr
      have h2 := of_decide_eq_true h2
      obtain ⟨y, e1, e2⟩ := ivL_ok hG hx hq
      unfold inI at e2
      subst e1
      have hgv : gvl (4, c1, c2) (.long y) = y.toInt := rfl
      rw [hgv] at hg ⊢
      refine ⟨⟨y, rfl, y.toInt, ?_, ?_⟩, r, hr, by unfold inI; omega⟩
      · simp only [h1, Int.toNat_natCast]; exact hg
      · simp only [h3]; omega
    · cases h2
  · rename_i ht; simp only at ht; subst ht
    simp only [Bool.and_eq_true] at h
    obtain ⟨h1, h2⟩ := h
    split at h1
    · rename_i q hq
      have h1 := of_decide_eq_true h1
      obtain ⟨y, e1, e2⟩ := ivL_ok hG hx hq
      unfold inI at e2
      exact ⟨⟨y, e1, by simp only; omega, by simp only; omega⟩, zin_ok h2⟩
    · cases h1
  · rename_i ht; simp only at ht; subst ht
    simp only [Bool.and_eq_true, decide_eq_true_eq] at h
    obtain ⟨⟨h1, h3⟩, h2⟩ := h
    obtain ⟨r, e1, e2⟩ := gam_ref hx h1
    exact ⟨⟨r, by simp only; rw [hac _ _ h3]; exact e1, e2⟩, zin_ok h2⟩
  · rename_i ht; simp only at ht; subst ht
    simp only [Bool.and_eq_true, decide_eq_true_eq] at h
    obtain ⟨h1, h2⟩ := h
    obtain ⟨tx, x1, x2⟩ := x
    simp only at h1
    subst h1
    exact ⟨hx, zin_ok h2⟩
  · rename_i ht; simp only at ht; subst ht
    simp only [Bool.and_eq_true, decide_eq_true_eq] at h
    obtain ⟨h1, h2⟩ := h
    refine ⟨?_, zin_ok h2⟩
    show va[c1.toNat]? = some v
    rw [h1, Int.toNat_natCast]; exact hv
  · cases h
def mtc (σ : List Nat) (G Gc : GI) : Nat → List AV → List AV → Bool
  | _, [], [] => true
  | p, c :: cs, x :: xs => mt1 σ G Gc p c x && mtc σ G Gc (p + 1) cs xs
  | _, _, _ => false
/-- what the callee's numbers are -/
def gcf : List AV → List Value → List Int
  | c :: cs, v :: vs => gvl c v :: gcf cs vs
  | _, _ => []
theorem gcf_len : ∀ {cs : List AV} {vs : List Value}, cs.length = vs.length → (gcf cs vs).length = vs.length
  | [], [], _ => rfl
  | [], _ :: _, h => by simp at h
  | _ :: _, [], h => by simp at h
  | _ :: cs, _ :: vs, h => by simp only [gcf, List.length_cons]; rw [gcf_len (cs := cs) (vs := vs) (by simpa using h)]
theorem gcf_app : ∀ {c1 c2 : List AV} {v1 v2 : List Value}, c1.length = v1.length → gcf (c1 ++ c2) (v1 ++ v2) = gcf c1 v1 ++ gcf c2 v2
  | [], _, [], _, _ => rfl
  | [], _, _ :: _, _, h => by simp at h
  | _ :: _, _, [], _, h => by simp at h
  | _ :: c1, c2, _ :: v1, v2, h => by simp only [List.cons_append, gcf]; rw [gcf_app (c1 := c1) (v1 := v1) (by simpa using h)]
theorem mtc_len {σ : List Nat} {G Gc : GI} : ∀ {p : Nat} {cs xs : List AV}, mtc σ G Gc p cs xs = true → cs.length = xs.length
  | _, [], [], _ => rfl
  | _, [], _ :: _, h => by simp [mtc] at h
  | _, _ :: _, [], h => by simp [mtc] at h
  | p, _ :: cs, _ :: xs, h => by
    simp only [mtc, Bool.and_eq_true] at h
    simp only [List.length_cons]; rw [mtc_len h.2]
theorem mtc_ok {σ : List Nat} {G Gc : GI} {g : List Int} {V : EV} {ac : List Nat} (hG : GS G g) (hac : ∀ (r i : Nat), σ[r]? = some i → ac[r]? = V.2[i]?) {va : List Value} {ga : List Int} : ∀ {cs xs : List AV} {vs pre post : List Value} {pg qg : List Int}, zf2 (gam g V) xs vs → mtc σ G Gc pre.length cs xs = true → va = pre ++ vs ++ post → ga = pg ++ gcf cs vs ++ qg → pg.length = pre.length → zf2 (gam ga (va, ac)) cs vs ∧ ∀ (i : Nat) (z : Int), (gcf cs vs)[i]? = some z → ∃ r, Gc[pre.length + i]? = some r ∧ inI r z
  | [], [], [], _, _, _, _, _, _, _, _, _ => ⟨trivial, fun i z h => by simp [gcf] at h⟩
  | [], _ :: _, _, _, _, _, _, _, h, _, _, _ => by simp [mtc] at h
  | _ :: _, [], _, _, _, _, _, _, h, _, _, _ => by simp [mtc] at h
  | _ :: _, _ :: _, [], _, _, _, _, hz, _, _, _, _ => hz.elim
  | c :: cs, x :: xs, v :: vs, pre, post, pg, qg, hz, h, hva, hga, hpl => by
    simp only [mtc, Bool.and_eq_true] at h
    obtain ⟨h1, h2⟩ := h
    have k1 := mt1_ok (va := va) (ga := ga) hG hz.1 h1 (by rw [hva]; simp) (by rw [hga, ← hpl]; simp [gcf]) hac
    have k2 := mtc_ok hG hac (va := va) (ga := ga) (pre := pre ++ [v]) (post := post) (pg := pg ++ [gvl c v]) (qg := qg) (vs := vs) hz.2 (by simpa using h2) (by rw [hva]; simp) (by rw [hga]; simp [gcf]) (by simp [hpl])
    refine ⟨⟨k1.1, k2.1⟩, fun i z hi => ?_⟩
    cases i with
    | zero => simp [gcf] at hi; subst hi; simpa using k1.2
    | succ i =>
      have := k2.2 i z (by simpa [gcf] using hi)
      simp only [List.length_append, List.length_cons, List.length_nil] at this
      rw [show pre.length + (i + 1) = pre.length + (0 + 1) + i by omega]
      exact this
def fldA : AC → List AV
  | .inl o => o.2
  | .inr _ => []
def fldE : va_E → List Value
  | .inr o => o.2
  | .inl _ => []
def numS (sg : List (Nat × AV)) : Bool := sg.all (fun q => decide (q.2.1 = 0 ∨ q.2.1 = 2 ∨ q.2.1 = 3 ∨ q.2.1 = 5))
theorem gam_num {g g' : List Int} {V V' : EV} {b : AV} {v : Value} (ht : b.1 = 0 ∨ b.1 = 2 ∨ b.1 = 3 ∨ b.1 = 5) (h : gam g V b v) : gam g' V' b v := by
  obtain ⟨t, x, y⟩ := b
  simp only at ht
  rcases ht with rfl | rfl | rfl | rfl <;> exact h
theorem numS_lk : ∀ {sg : List (Nat × AV)} {i : Nat} {b : AV}, numS sg = true → lk sg i = some b → b.1 = 0 ∨ b.1 = 2 ∨ b.1 = 3 ∨ b.1 = 5
  | [], _, _, _, h => by cases h
  | (n, a) :: r, i, b, hn, h => by
    simp only [numS, List.all_cons, Bool.and_eq_true, decide_eq_true_eq] at hn
    unfold lk at h
    split at h
    · cases h; exact hn.1
    · exact numS_lk (sg := r) (by unfold numS; exact hn.2) h
theorem relC_num {g g' : List Int} {V V' : EV} {cA : Nat → ClassId} {t : Nat × List (Nat × AV)} {e : va_E} (hn : numS t.2 = true) (h : relC g V cA (.inr t) e) : relC g' V' cA (.inr t) e := by
  unfold relC at h ⊢
  split at h
  · rename_i hq; cases hq
  · rename_i hq; cases hq
    exact ⟨h.1, h.2.1, h.2.2.1, h.2.2.2.1, fun i b hb => gam_num (numS_lk hn hb) (h.2.2.2.2 i b hb)⟩
  · rename_i hq; cases hq
    exact ⟨h.1, h.2.1, h.2.2.1, h.2.2.2.1, fun i b hb => gam_num (numS_lk hn hb) (h.2.2.2.2 i b hb)⟩
  · rename_i hq; cases hq
    exact ⟨h.1, h.2.1, h.2.2.1, h.2.2.2.1, fun i b hb => gam_num (numS_lk hn hb) (h.2.2.2.2 i b hb)⟩
  · exact h.elim
/-- rows of references, place by place -/
def mtR (σ : List Nat) : List (Nat × AV) → List (Nat × AV) → Bool
  | [], [] => true
  | (n, c) :: cs, (k, x) :: xs => decide (n = k ∧ c.1 = 6 ∧ x.1 = 6 ∧ σ[c.2.1.toNat]? = some x.2.1.toNat) && mtR σ cs xs
  | _, _ => false
theorem mtR_ok {σ : List Nat} : ∀ {cs xs : List (Nat × AV)}, mtR σ cs xs = true → tot xs = tot cs ∧ ∀ (i : Nat) (b : AV), lk cs i = some b → ∃ b', lk xs i = some b' ∧ b.1 = 6 ∧ b'.1 = 6 ∧ σ[b.2.1.toNat]? = some b'.2.1.toNat
  | [], [], _ => ⟨rfl, fun i b h => by cases h⟩
  | [], _ :: _, h => by simp [mtR] at h
  | _ :: _, [], h => by simp [mtR] at h
  | (n, c) :: cs, (k, x) :: xs, h => by
    simp only [mtR, Bool.and_eq_true, decide_eq_true_eq] at h
    obtain ⟨⟨rfl, h1, h2, h3⟩, h4⟩ := h
    have ih := mtR_ok h4
    refine ⟨by simp only [tot]; omega, fun i b hb => ?_⟩
    unfold lk at hb ⊢
    split at hb
    · cases hb
      rename_i hi
      exact ⟨x, by rw [if_pos hi], h1, h2, h3⟩
    · rename_i hi
      rw [if_neg hi]
      exact ih.2 _ b hb
def mtC (σ : List Nat) (G Gc : GI) : Nat → List AC → List AC → Bool
  | _, [], [] => true
  | p, .inl c :: cs, .inl x :: xs => decide (c.1 = x.1) && (mtc σ G Gc p c.2 x.2 && mtC σ G Gc (p + c.2.length) cs xs)
  | p, .inr c :: cs, .inr x :: xs => decide (c.1 = x.1) && (((numS c.2 && subS 0 G (x.2.length + c.2.length + 1) x.2 c.2) || (decide (c.1 = 4) && mtR σ c.2 x.2)) && mtC σ G Gc p cs xs)
  | _, _, _ => false
theorem relC_arr {g : List Int} {V : EV} {cA : Nat → ClassId} {t : Nat × List (Nat × AV)} {e : va_E} (h : relC g V cA (.inr t) e) : fldE e = [] := by
  unfold relC at h
  split at h
  · rename_i hq; cases hq
  · rfl
  · rfl
  · rfl
  · exact h.elim
theorem mtC_ok {σ : List Nat} {G Gc : GI} {g : List Int} {V : EV} {ac : List Nat} {cA : Nat → ClassId} (hG : GS G g) (hac : ∀ (r i : Nat), σ[r]? = some i → ac[r]? = V.2[i]?) {va : List Value} {ga : List Int} : ∀ {cs xs : List AC} {es : List va_E} {pre : List Value} {pg : List Int}, zf2 (relC g V cA) xs es → mtC σ G Gc pre.length cs xs = true → va = pre ++ es.flatMap fldE → ga = pg ++ gcf (cs.flatMap fldA) (es.flatMap fldE) → pg.length = pre.length → zf2 (relC ga (va, ac) cA) cs es ∧ (cs.flatMap fldA).length = (es.flatMap fldE).length ∧ ∀ (i : Nat) (z : Int), (gcf (cs.flatMap fldA) (es.flatMap fldE))[i]? = some z → ∃ r, Gc[pre.length + i]? = some r ∧ inI r z
  | [], [], [], _, _, _, _, _, _, _ => ⟨trivial, rfl, fun i z h => by simp [gcf] at h⟩
  | [], _ :: _, _, _, _, _, h, _, _, _ => by simp [mtC] at h
  | _ :: _, [], _, _, _, _, h, _, _, _ => by simp [mtC] at h
  | _ :: _, _ :: _, [], _, _, hz, _, _, _, _ => hz.elim
  | .inl _ :: _, .inr _ :: _, _, _, _, _, h, _, _, _ => by simp [mtC] at h
  | .inr _ :: _, .inl _ :: _, _, _, _, _, h, _, _, _ => by simp [mtC] at h
  | .inl c :: cs, .inl x :: xs, e :: es, pre, pg, hz, h, hva, hga, hpl => by
    simp only [mtC, Bool.and_eq_true, decide_eq_true_eq] at h
    obtain ⟨h1, h2, h3⟩ := h
    obtain ⟨x1, x2⟩ := x
    obtain ⟨vs, rfl, e5⟩ := relC_obj hz.1
    simp only at h1 h2
    have hlen : c.2.length = vs.length := (mtc_len h2).trans (zf2_len e5)
    have hga' : ga = pg ++ gcf c.2 vs ++ gcf (cs.flatMap fldA) (es.flatMap fldE) := by
      rw [hga]; simp only [List.flatMap_cons, fldA, fldE]; rw [gcf_app hlen, List.append_assoc]
    have k1 := mtc_ok hG hac (va := va) (ga := ga) (pre := pre) (post := es.flatMap fldE) (pg := pg) (qg := gcf (cs.flatMap fldA) (es.flatMap fldE)) e5 h2 (by rw [hva]; simp [fldE]) hga' hpl
    have k2 := mtC_ok hG hac (va := va) (ga := ga) (cs := cs) (xs := xs) (es := es) (pre := pre ++ vs) (pg := pg ++ gcf c.2 vs) hz.2 (by rw [List.length_append, ← hlen]; exact h3) (by rw [hva]; simp [fldE]) hga' (by rw [List.length_append, List.length_append, hpl, gcf_len hlen])
    refine ⟨⟨⟨h1, k1.1⟩, k2.1⟩, ?_, fun i z hi => ?_⟩
    · simp only [List.flatMap_cons, fldA, fldE, List.length_append]; rw [hlen, k2.2.1]
    · simp only [List.flatMap_cons, fldA, fldE] at hi
      rw [gcf_app hlen] at hi
      by_cases hlt : i < vs.length
      · rw [List.getElem?_append_left (by rw [gcf_len hlen]; exact hlt)] at hi
        exact k1.2 i z hi
      · rw [List.getElem?_append_right (by rw [gcf_len hlen]; omega), gcf_len hlen] at hi
        have := k2.2.2 _ z hi
        rw [List.length_append] at this
        rw [show pre.length + i = pre.length + vs.length + (i - vs.length) by omega]
        exact this
  | .inr c :: cs, .inr x :: xs, e :: es, pre, pg, hz, h, hva, hga, hpl => by
    simp only [mtC, Bool.and_eq_true, Bool.or_eq_true, decide_eq_true_eq] at h
    obtain ⟨h1, h2, h4⟩ := h
    have hfe := relC_arr hz.1
    have hfl : (e :: es).flatMap fldE = es.flatMap fldE := by simp [hfe]
    rw [hfl] at hva hga ⊢
    have hfa : (Sum.inr c :: cs : List AC).flatMap fldA = cs.flatMap fldA := by simp [fldA]
    rw [hfa] at hga ⊢
    have k2 := mtC_ok hG hac (va := va) (ga := ga) (cs := cs) (xs := xs) (es := es) (pre := pre) (pg := pg) hz.2 h4 hva hga hpl
    refine ⟨⟨?_, k2.1⟩, k2.2⟩
    rcases h2 with ⟨h2, h3⟩ | ⟨h2, h3⟩
    · have ks : relC [] V cA (.inr c) e := subC_ok (g0 := []) hG ⟨g, rfl⟩ hz.1 (by
        unfold subC
        simp only [List.length_nil, Bool.and_eq_true, decide_eq_true_eq]
        exact ⟨h1.symm, h3⟩)
      exact relC_num h2 ks
    · obtain ⟨c1, c2⟩ := c
      obtain ⟨x1, x2⟩ := x
      simp only at h1 h2 h3
      subst h2
      subst h1
      obtain ⟨f, rfl, b1, b2⟩ := relC_arR hz.1
      have hr := mtR_ok h3
      refine ⟨rfl, rfl, hr.1, b1, fun i b hb => ?_⟩
      obtain ⟨b', e1, e2, e3, e4⟩ := hr.2 i b hb
      obtain ⟨r, e5, e6⟩ := gam_ref (b2 i b' e1) e3
      obtain ⟨tb, b3, b4⟩ := b
      simp only at e2 e4
      subst e2
      exact ⟨r, by simp only; rw [hac _ _ e4]; exact e5, e6⟩
/-- cells at places -/
def gAll {α : Type} (l : List α) : List Nat → Option (List α)
  | [] => some []
  | i :: r => match l[i]?, gAll l r with
    | some a, some as => some (a :: as)
    | _, _ => none
theorem gAll_ok {α : Type} {l : List α} : ∀ {σ : List Nat} {as : List α}, gAll l σ = some as → σ.length = as.length ∧ ∀ (k i : Nat), σ[k]? = some i → as[k]? = l[i]? ∧ ∃ a, l[i]? = some a
  | [], as, h => by cases h; exact ⟨rfl, fun k i hk => by simp at hk⟩
  | j :: r, as, h => by
    unfold gAll at h
    split at h
    · rename_i a as' h1 h2
      cases h
      have ih := gAll_ok h2
      refine ⟨by simp [ih.1], fun k i hk => ?_⟩
      cases k with
      | zero => simp at hk; subst hk; exact ⟨by simp [h1], a, h1⟩
      | succ k => simpa using ih.2 k i (by simpa using hk)
    · cases h
theorem gAll_zf {α β : Type} {R : α → β → Prop} {l : List α} {m : List β} (hz : zf2 R l m) : ∀ {σ : List Nat} {as : List α}, gAll l σ = some as → ∃ bs, gAll m σ = some bs ∧ zf2 R as bs
  | [], as, h => by cases h; exact ⟨[], rfl, trivial⟩
  | j :: r, as, h => by
    unfold gAll at h
    split at h
    · rename_i a as' h1 h2
      cases h
      obtain ⟨b, e1, e2⟩ := zf2_get hz h1
      obtain ⟨bs, e3, e4⟩ := gAll_zf hz h2
      exact ⟨b :: bs, by unfold gAll; rw [e1, e3], e2, e4⟩
    · cases h
theorem gAll_len {α β : Type} {l : List α} {m : List β} (hl : l.length = m.length) : ∀ {σ : List Nat} {as : List α}, gAll l σ = some as → ∃ bs, gAll m σ = some bs
  | [], as, h => ⟨[], rfl⟩
  | j :: r, as, h => by
    unfold gAll at h
    split at h
    · rename_i a as' h1 h2
      obtain ⟨bs, e3⟩ := gAll_len hl h2
      have hj : j < m.length := by rw [← hl]; exact (List.getElem?_eq_some_iff.mp h1).1
      exact ⟨m[j] :: bs, by unfold gAll; rw [List.getElem?_eq_getElem hj, e3]⟩
    · cases h
def sAll {α : Type} (l : List α) : List Nat → List α → List α
  | [], _ => l
  | _ :: _, [] => l
  | i :: r, a :: as => sAll (l.set i a) r as
theorem sAll_len {α : Type} : ∀ {σ : List Nat} {l as : List α}, (sAll l σ as).length = l.length
  | [], _, _ => by simp [sAll]
  | _ :: _, _, [] => by simp [sAll]
  | i :: r, l, a :: as => by unfold sAll; rw [sAll_len (σ := r)]; simp
theorem sAll_out {α : Type} : ∀ {σ : List Nat} {l as : List α} {j : Nat}, j ∉ σ → (sAll l σ as)[j]? = l[j]?
  | [], _, _, _, _ => by simp [sAll]
  | _ :: _, _, [], _, _ => by simp [sAll]
  | i :: r, l, a :: as, j, h => by
    unfold sAll
    rw [sAll_out (σ := r) (fun q => h (List.mem_cons_of_mem _ q)), List.getElem?_set_ne (fun q => h (by rw [q]; exact List.mem_cons_self))]
theorem sAll_in {α : Type} : ∀ {σ : List Nat} {l as : List α} {k i : Nat}, va_nd σ = true → σ.length = as.length → (∀ j ∈ σ, j < l.length) → σ[k]? = some i → (sAll l σ as)[i]? = as[k]?
  | [], _, _, k, i, _, _, _, h => by simp at h
  | _ :: _, _, [], _, _, _, h, _, _ => by simp at h
  | j :: r, l, a :: as, k, i, hn, hl, hb, h => by
    unfold sAll
    simp only [va_nd, Bool.and_eq_true, decide_eq_true_eq] at hn
    cases k with
    | zero =>
      simp at h
      subst h
      rw [sAll_out (σ := r) hn.1, List.getElem?_set_self (hb j List.mem_cons_self)]
      rfl
    | succ k =>
      have := sAll_in (σ := r) (l := l.set j a) (as := as) (k := k) (i := i) hn.2 (by simpa using hl) (fun q hq => by rw [List.length_set]; exact hb q (List.mem_cons_of_mem _ hq)) (by simpa using h)
      rw [this]; simp
end
section
/-! ===== a call: what comes back ===== -/
def bas (x : AV) (off : Int) (b : Nat) : Option AV := match x.1 with
  | 0 => some (b, x.2.1 + off, 0)
  | 1 => some (b + 1, x.2.1, x.2.2 + off)
  | 2 => some (b + 2, x.2.1 + off, x.2.2 + off)
  | 3 => some (b, x.2.1 + off, 0)
  | 4 => some (b + 1, x.2.1, x.2.2 + off)
  | 5 => some (b + 2, x.2.1 + off, x.2.2 + off)
  | _ => none
theorem bas_num {g : List Int} {V : EV} {x b : AV} {v : Value} {off : Int} {t : Nat} (hx : gam g V x v) (h : bas x off t = some b) : ∃ z, numV v = some z ∧ ((b.1 = t ∧ z + off = b.2.1) ∨ (b.1 = t + 1 ∧ ∃ y, g[b.2.1.toNat]? = some y ∧ z + off = y + b.2.2) ∨ (b.1 = t + 2 ∧ b.2.1 ≤ z + off ∧ z + off ≤ b.2.2)) := by
  obtain ⟨tx, x1, x2⟩ := x
  unfold bas at h
  split at h
  · rename_i ht; simp only at ht; subst ht; cases h
    obtain ⟨y, rfl, h2⟩ := hx
    exact ⟨_, rfl, Or.inl ⟨rfl, by simp only at h2 ⊢; omega⟩⟩
  · rename_i ht; simp only at ht; subst ht; cases h
    obtain ⟨y, rfl, z, h2, h3⟩ := hx
    exact ⟨_, rfl, Or.inr (Or.inl ⟨rfl, z, h2, by simp only at h3 ⊢; omega⟩)⟩
  · rename_i ht; simp only at ht; subst ht; cases h
    obtain ⟨y, rfl, h2, h3⟩ := hx
    exact ⟨_, rfl, Or.inr (Or.inr ⟨rfl, by simp only at h2 h3 ⊢; omega, by simp only at h2 h3 ⊢; omega⟩)⟩
  · rename_i ht; simp only at ht; subst ht; cases h
    obtain ⟨y, rfl, h2⟩ := hx
    exact ⟨_, rfl, Or.inl ⟨rfl, by simp only at h2 ⊢; omega⟩⟩
  · rename_i ht; simp only at ht; subst ht; cases h
    obtain ⟨y, rfl, z, h2, h3⟩ := hx
    exact ⟨_, rfl, Or.inr (Or.inl ⟨rfl, z, h2, by simp only at h3 ⊢; omega⟩)⟩
  · rename_i ht; simp only at ht; subst ht; cases h
    obtain ⟨y, rfl, h2, h3⟩ := hx
    exact ⟨_, rfl, Or.inr (Or.inr ⟨rfl, by simp only at h2 h3 ⊢; omega, by simp only at h2 h3 ⊢; omega⟩)⟩
  · cases h
def trV (σ : List Nat) (cv xv : List AV) (a : AV) : Option AV := match a.1 with
  | 1 => match cv[a.2.1.toNat]?, xv[a.2.1.toNat]? with
    | some c, some x => if c.1 = 1 ∨ c.1 = 4 then bas x a.2.2 0 else none
    | _, _ => none
  | 4 => match cv[a.2.1.toNat]?, xv[a.2.1.toNat]? with
    | some c, some x => if c.1 = 1 ∨ c.1 = 4 then bas x a.2.2 3 else none
    | _, _ => none
  | 6 => match σ[a.2.1.toNat]? with
    | some i => some (6, (i : Int), 0)
    | none => none
  | 8 => xv[a.2.1.toNat]?
  | 0 => some a
  | 2 => some a
  | 3 => some a
  | 5 => some a
  | 7 => some a
  | _ => none
theorem gcf_get : ∀ {cs : List AV} {vs : List Value} {k : Nat} {c : AV} {v : Value}, cs[k]? = some c → vs[k]? = some v → (gcf cs vs)[k]? = some (gvl c v)
  | [], _, _, _, _, h, _ => by simp at h
  | _ :: _, [], _, _, _, _, h => by simp at h
  | c :: cs, v :: vs, 0, _, _, h, h' => by simp at h h'; subst h; subst h'; rfl
  | c :: cs, v :: vs, k + 1, _, _, h, h' => by simpa [gcf] using gcf_get (cs := cs) (vs := vs) (k := k) (by simpa using h) (by simpa using h')
theorem trV_ok {σ ac : List Nat} {cv xv : List AV} {g : List Int} {V : EV} {va : List Value} {a b : AV} {v : Value} (hz : zf2 (gam g V) xv va) (hac : ∀ (r i : Nat), σ[r]? = some i → ac[r]? = V.2[i]?) (hsl : σ.length = ac.length) (ha : gam (gcf cv va) (va, ac) a v) (h : trV σ cv xv a = some b) : gam g V b v := by
  obtain ⟨t, a1, a2⟩ := a
  unfold trV at h
  split at h
  · rename_i ht; simp only at ht; subst ht
    split at h
    · rename_i c x hc hxv
      split at h
      · rename_i hct
        obtain ⟨y, rfl, z, h2, h3⟩ := ha
        simp only at h2 h3 hc hxv h
        obtain ⟨u, e1, e2⟩ := zf2_get hz hxv
        have e3 := gcf_get hc e1
        have e4 : z = gvl c u := Option.some.inj (h2.symm.trans e3)
        obtain ⟨w, e5, e6⟩ := bas_num e2 h
        have e7 : gvl c u = w := by unfold gvl; rw [if_pos hct, e5]; rfl
        obtain ⟨tb, b1, b2⟩ := b
        simp only at e6
        rcases e6 with ⟨rfl, e8⟩ | ⟨rfl, q, e8, e9⟩ | ⟨rfl, e8, e9⟩
        · exact ⟨y, rfl, by simp only; omega⟩
        · exact ⟨y, rfl, q, e8, by simp only; omega⟩
        · exact ⟨y, rfl, by simp only; omega, by simp only; omega⟩
      · cases h
    · cases h
  · rename_i ht; simp only at ht; subst ht
    split at h
    · rename_i c x hc hxv
      split at h
      · rename_i hct
        obtain ⟨y, rfl, z, h2, h3⟩ := ha
        simp only at h2 h3 hc hxv h
        obtain ⟨u, e1, e2⟩ := zf2_get hz hxv
        have e3 := gcf_get hc e1
        have e4 : z = gvl c u := Option.some.inj (h2.symm.trans e3)
        obtain ⟨w, e5, e6⟩ := bas_num e2 h
        have e7 : gvl c u = w := by unfold gvl; rw [if_pos hct, e5]; rfl
        obtain ⟨tb, b1, b2⟩ := b
        simp only at e6
        rcases e6 with ⟨rfl, e8⟩ | ⟨rfl, q, e8, e9⟩ | ⟨rfl, e8, e9⟩
        · exact ⟨y, rfl, by simp only; omega⟩
        · exact ⟨y, rfl, q, e8, by simp only; omega⟩
        · exact ⟨y, rfl, by simp only; omega, by simp only; omega⟩
      · cases h
    · cases h
  · rename_i ht; simp only at ht; subst ht
    split at h
    · rename_i i hi
      cases h
      obtain ⟨r, h2, h3⟩ := ha
      simp only at h2 hi
      exact ⟨r, by simp only [Int.toNat_natCast]; rw [← hac _ _ hi]; exact h2, h3⟩
    · cases h
  · rename_i ht; simp only at ht; subst ht
    have ha : va[a1.toNat]? = some v := ha
    obtain ⟨u, e1, e2⟩ := zf2_get hz h
    simp only at e1
    rw [ha] at e1
    cases e1
    exact e2
  · rename_i ht; simp only at ht; subst ht; cases h; exact ha
  · rename_i ht; simp only at ht; subst ht; cases h; exact ha
  · rename_i ht; simp only at ht; subst ht; cases h; exact ha
  · rename_i ht; simp only at ht; subst ht; cases h; exact ha
  · rename_i ht; simp only at ht; subst ht; cases h; exact ha
  · cases h
def trF (σ : List Nat) (cv xv : List AV) : List AV → Option (List AV)
  | [] => some []
  | a :: r => match trV σ cv xv a, trF σ cv xv r with
    | some b, some s => some (b :: s)
    | _, _ => none
theorem trF_ok {σ ac : List Nat} {cv xv : List AV} {g : List Int} {V : EV} {va : List Value} (hz : zf2 (gam g V) xv va) (hac : ∀ (r i : Nat), σ[r]? = some i → ac[r]? = V.2[i]?) (hsl : σ.length = ac.length) : ∀ {as bs : List AV} {vs : List Value}, zf2 (gam (gcf cv va) (va, ac)) as vs → trF σ cv xv as = some bs → zf2 (gam g V) bs vs
  | [], _, [], _, h => by cases h; trivial
  | [], _, _ :: _, hz', _ => hz'.elim
  | _ :: _, _, [], hz', _ => hz'.elim
  | a :: as, bs, v :: vs, hz', h => by
    unfold trF at h
    split at h
    · rename_i b s h1 h2
      cases h
      exact ⟨trV_ok hz hac hsl hz'.1 h1, trF_ok hz hac hsl hz'.2 h2⟩
    · cases h
/-- what the caller learns of its own numbers; none: it can't be so -/
def rfn (G : GI) : List AV → List AV → GI → Option GI
  | c :: cs, x :: xs, q :: qs => if c.1 = 1 then (match ivI G x with
      | some r => if max r.1 q.1 ≤ min r.2 q.2 then rfn (setG G x (max r.1 q.1, min r.2 q.2)) cs xs qs else none
      | none => rfn G cs xs qs) else if c.1 = 4 then (match ivL G x with
      | some r => if max r.1 q.1 ≤ min r.2 q.2 then rfn (setG G x (max r.1 q.1, min r.2 q.2)) cs xs qs else none
      | none => rfn G cs xs qs) else rfn G cs xs qs
  | [], _, _ => some G
  | _, [], _ => some G
  | _, _, [] => some G
theorem rfn_ok {g : List Int} {V : EV} : ∀ {cs xs : List AV} {qs : GI} {vs : List Value} {G : GI}, GS G g → zf2 (gam g V) xs vs → zf2 inI qs (gcf cs vs) → cs.length = vs.length → ∃ G', rfn G cs xs qs = some G' ∧ GS G' g
  | [], xs, qs, vs, G, hG, _, _, _ => ⟨G, by unfold rfn; rfl, hG⟩
  | _ :: _, [], qs, vs, G, hG, _, _, _ => ⟨G, by unfold rfn; rfl, hG⟩
  | _ :: _, _ :: _, [], vs, G, hG, _, _, _ => ⟨G, by unfold rfn; rfl, hG⟩
  | c :: cs, x :: xs, q :: qs, [], G, hG, hz, _, _ => hz.elim
  | c :: cs, x :: xs, q :: qs, v :: vs, G, hG, hz, hq, hl => by
    have hq1 := hq.1
    have ih := fun (G2 : GI) (h2 : GS G2 g) => rfn_ok (cs := cs) (xs := xs) (qs := qs) (vs := vs) (G := G2) h2 hz.2 hq.2 (by simpa using hl)
    unfold rfn
    split
    · rename_i hc
      split
      · rename_i r hr
        obtain ⟨y, rfl, e1⟩ := ivI_ok hG hz.1 hr
        have hgv : gvl c (.int y) = y.toInt := by unfold gvl; rw [if_pos (Or.inl hc)]; rfl
        rw [hgv] at hq1
        unfold inI at hq1 e1
        rw [if_pos (by omega)]
        exact ih _ (setG_ok hG hz.1 rfl (by unfold inI; simp only; omega))
      · exact ih G hG
    · split
      · rename_i hc
        split
        · rename_i r hr
          obtain ⟨y, rfl, e1⟩ := ivL_ok hG hz.1 hr
          have hgv : gvl c (.long y) = y.toInt := by unfold gvl; rw [if_pos (Or.inr hc)]; rfl
          rw [hgv] at hq1
          unfold inI at hq1 e1
          rw [if_pos (by omega)]
          exact ih _ (setG_ok hG hz.1 rfl (by unfold inI; simp only; omega))
        · exact ih G hG
      · exact ih G hG
def relK (g : List Int) (V : EV) (cA : Nat → ClassId) (x : Bool × AC) (y : va_E) : Prop := x.1 = true → relC g V cA x.2 y
def trH (σ : List Nat) (cv xv : List AV) : HP → HP → Option HP
  | [], [] => some []
  | (false, _) :: os, x :: xs => match trH σ cv xv os xs with
    | some r => some (x :: r)
    | none => none
  | (true, .inl o) :: os, _ :: xs => match trF σ cv xv o.2, trH σ cv xv os xs with
    | some fs, some r => some ((true, .inl (o.1, fs)) :: r)
    | _, _ => none
  | (true, .inr t) :: os, _ :: xs => if numS t.2 = true then (match trH σ cv xv os xs with
    | some r => some ((true, .inr t) :: r)
    | none => none) else none
  | _, _ => none
theorem trH_ok {σ ac : List Nat} {cv xv : List AV} {g : List Int} {V : EV} {va : List Value} {cA : Nat → ClassId} (hz : zf2 (gam g V) xv va) (hac : ∀ (r i : Nat), σ[r]? = some i → ac[r]? = V.2[i]?) (hsl : σ.length = ac.length) : ∀ {os xs r : HP} {es es' : List va_E}, zf2 (relK (gcf cv va) (va, ac) cA) os es' → zf2 (fun (x : Bool × AC) (y : va_E) => relC g V cA x.2 y) xs es → (∀ (j : Nat) (q : Bool × AC), os[j]? = some q → q.1 = false → es'[j]? = es[j]?) → trH σ cv xv os xs = some r → zf2 (fun (x : Bool × AC) (y : va_E) => relC g V cA x.2 y) r es' ∧ r.length = xs.length ∧ ∀ (j : Nat) (q : Bool × AC), r[j]? = some q → q.1 = false → xs[j]? = some q ∧ es'[j]? = es[j]?
  | [], [], r, [], [], _, _, _, h => by cases h; exact ⟨trivial, rfl, fun j q hj => by simp at hj⟩
  | [], [], r, _ :: _, _, _, h, _, _ => h.elim
  | [], _, r, _, _ :: _, h, _, _, _ => h.elim
  | [], _ :: _, r, _, _, _, _, _, h => by simp [trH] at h
  | (b, c) :: _, [], r, _, _, _, _, _, h => by cases b <;> cases c <;> simp [trH] at h
  | _ :: _, _, r, _, [], h, _, _, _ => h.elim
  | _ :: _, _ :: _, r, [], _ :: _, _, h, _, _ => h.elim
  | (b, c) :: os, x :: xs, r, e :: es, e' :: es', h1, h2, h3, h => by
    have h3' : ∀ (j : Nat) (q : Bool × AC), os[j]? = some q → q.1 = false → es'[j]? = es[j]? := fun j q hj hq => by simpa using h3 (j + 1) q (by simpa using hj) hq
    match b, c, h with
    | false, c, h =>
      unfold trH at h
      split at h
      · rename_i r' hr'
        cases h
        have ih := trH_ok hz hac hsl h1.2 h2.2 h3' hr'
        have he : e' = e := by have := h3 0 (false, c) rfl rfl; simpa using this
        subst he
        refine ⟨⟨h2.1, ih.1⟩, by simp [ih.2.1], fun j q hj hq => ?_⟩
        cases j with
        | zero => simp at hj; subst hj; exact ⟨rfl, rfl⟩
        | succ j => simpa using ih.2.2 j q (by simpa using hj) hq
      · cases h
    | true, .inl o, h =>
      unfold trH at h
      split at h
      · rename_i fs r' hfs hr'
        cases h
        have ih := trH_ok hz hac hsl h1.2 h2.2 h3' hr'
        obtain ⟨o1, o2⟩ := o
        obtain ⟨vs, rfl, e5⟩ := relC_obj (h1.1 rfl)
        refine ⟨⟨⟨rfl, trF_ok hz hac hsl e5 hfs⟩, ih.1⟩, by simp [ih.2.1], fun j q hj hq => ?_⟩
        cases j with
        | zero => simp at hj; subst hj; cases hq
        | succ j => simpa using ih.2.2 j q (by simpa using hj) hq
      · cases h
    | true, .inr t, h =>
      unfold trH at h
      split at h
      · rename_i hn
        split at h
        · rename_i r' hr'
          cases h
          have ih := trH_ok hz hac hsl h1.2 h2.2 h3' hr'
          refine ⟨⟨relC_num hn (h1.1 rfl), ih.1⟩, by simp [ih.2.1], fun j q hj hq => ?_⟩
          cases j with
          | zero => simp at hj; subst hj; cases hq
          | succ j => simpa using ih.2.2 j q (by simpa using hj) hq
        · cases h
      · cases h
end
section
/-! ===== contracts, and a call by one ===== -/
def nestM : List (String × Nat × MethodName × String) := [(RX11, 9, ⟨RX10, "<init>", "()V"⟩, RX11), (RX6, 11, ⟨RX4, "<init>", "()V"⟩, RX11), (RX11, 27, ⟨RX9, "<init>", "()V"⟩, RX11), (RX9, 9, ⟨RX4, "<init>", "()V"⟩, RX11), (RX9, 18, ⟨RX0, "<init>", "()V"⟩, RX11), (RX11, 38, ⟨RX8, "<init>", "()V"⟩, RX11), (RX11, 58, ⟨RX7, "<init>", "()V"⟩, RX11), (RX11, 68, ⟨RX3, "<init>", "()V"⟩, RX11), (RX11, 87, ⟨RX2, "<init>", "()V"⟩, RX11), (RX6, 147, ⟨RX11, "hasBit", "(II)Z"⟩, RX11), (RX1, 45, ⟨RX11, "hasBit", "(II)Z"⟩, RX11), (RX3, 58, ⟨RX11, "hasBit", "(II)Z"⟩, RX11), (RX5, 70, ⟨RX11, "hasBit", "(II)Z"⟩, RX11), (RX2, 40, ⟨RX11, "hasBit", "(II)Z"⟩, RX11)]
def NOK (U : State) : Prop := ∀ q ∈ nestM, va_Nw (.methodLinkNest q.1 q.2.1 q.2.2.1 q.2.2.2) U
theorem NOK_same {u U : State} (h : u.vm = U.vm) (hn : NOK u) : NOK U := fun q hq => va_Nw.same rfl h (hn q hq)
theorem NOK_warm {s U : State} (hW : s.WarmedH U.vm) (hn : NOK s) : NOK U := fun q hq => va_Nw.warmM hW (hn q hq)
/-- a method (its name, bytes, locals, what it returns), its room (frames, locals), its start (arguments, numbers, cells), its ends (answer, numbers, cells: false: as they were) -/
abbrev Con : Type := (MethodName × ByteArray × Nat × Option FieldType) × (Nat × Nat) × (List AV × GI × List AC) × List (AV × GI × HP)
def retR (g : List Int) (V : EV) (r : AV) (oc : Outcome) : Prop := (r.1 = 9 ∧ oc = .returned none) ∨ (r.1 ≠ 9 ∧ ∃ v, oc = .returned (some v) ∧ gam g V r v)
def PcC (D : va_G) (cl : List vw_C) (cA : Nat → ClassId) (vs : List Value) (ad : List Nat) (es : List va_E) (sz : Nat) : Array Value → State → Prop := va_Pc vs (fun U => U.heap.size = sz ∧ va_P D cl (zw ad es) U.heap ∧ va_K D cl (tysA cA) U ∧ va_D (fun _ => True) (zw ad es) ∧ NOK U)
def OutC (D : va_G) (cl : List vw_C) (cA : Nat → ClassId) (outs : List (AV × GI × HP)) (g : List Int) (gv : List Value) (ad : List Nat) (es : List va_E) (oc : Outcome) (t : State) : Prop := ∃ o ∈ outs, ∃ es', retR g (gv, ad) o.1 oc ∧ GS o.2.1 g ∧ zf2 (relK g (gv, ad) cA) o.2.2 es' ∧ kep o.2.2 es es' ∧ va_P D cl (zw ad es') t.heap ∧ es'.length = ad.length
def QcC (D : va_G) (cl : List vw_C) (cA : Nat → ClassId) (outs : List (AV × GI × HP)) (g : List Int) (gv : List Value) (ad : List Nat) (es : List va_E) (sz : Nat) : Array Value → State → Outcome → State → Prop := fun _ st oc t => OutC D cl cA outs g gv ad es oc t ∧ va_F (va_A (zw ad es) sz) st t
def rmC (k : Con) : Room := { frames := k.2.1.1, cells := 0, slots := 0, locals := k.2.1.2 }
def Vld (l : Launch) (cl : List vw_C) (Ts : List Jvm.Cond) (k : Con) : Prop := ∀ (D : va_G) (cA : Nat → ClassId) (g : List Int) (gv : List Value) (ad : List Nat) (es : List va_E) (vs : List Value) (sz : Nat), GS k.2.2.1.2.1 g → zf2 (gam g (gv, ad)) k.2.2.1.1 vs → zf2 (relC g (gv, ad) cA) k.2.2.1.2.2 es → es.length = ad.length →
  Met l k.1.1 (.code k.1.1 k.1.2.1 k.1.2.2.1 k.1.2.2.2 :: Ts) (rmC k) (PcC D cl cA vs ad es sz) (QcC D cl cA k.2.2.2 g gv ad es sz) 0 0 (va_A (zw ad es) sz)
/-- a call that the caller's class may make: by its index, of an object's method (false) or not (true) -/
def COK (own : String) (cl : List vw_C) (Ts : List Jvm.Cond) (i : Nat) (st : Bool) (k : Con) : Prop :=
  Jvm.Cond.code k.1.1 k.1.2.1 k.1.2.2.1 k.1.2.2.2 ∈ Ts ∧ Jvm.Cond.methodLink own i k.1.1 ∈ Ts ∧ Jvm.Cond.initialized k.1.1.cls ∈ Ts ∧ (k.1.1.cls ≠ "java/lang/invoke/MethodHandle" ∧ k.1.1.cls ≠ "java/lang/invoke/VarHandle") ∧
  (st = true → Jvm.Cond.static k.1.1 ∈ Ts ∧ (parseMethodDescriptor k.1.1.desc).map (fun d => d.parameters.length) = some k.2.2.1.1.length) ∧
  (st = false → Jvm.Cond.instanceMethod k.1.1 ∈ Ts ∧ Jvm.Cond.selects k.1.1.cls k.1.1 k.1.1 ∈ Ts ∧ (∃ as, k.2.2.1.1 = (6, 0, 0) :: as ∧ (parseMethodDescriptor k.1.1.desc).map (fun d => d.parameters.length) = some as.length) ∧ ∃ (ci : Nat) (fs : List AV) (F : u_T) (N : Nat), k.2.2.1.2.2[0]? = some (.inl (ci, fs)) ∧ cl[ci]? = some (k.1.1.cls, F, N))
def cOut (a : AS) (σ : List Nat) (cv xv : List AV) (rest : List AV) (cells : HP) (o : AV × GI × HP) : Option (List AS) :=
  if o.2.1.length = cv.length then (match trH σ cv xv o.2.2 cells with
    | none => none
    | some cs => match rfn a.2.2.2.1 cv xv o.2.1 with
      | none => some []
      | some G => if o.1.1 = 9 then some [(a.1 + 3, a.2.1, rest, G, sAll a.2.2.2.2 σ cs)] else (match trV σ cv xv o.1 with
        | none => none
        | some r => match nam G r with
          | none => none
          | some q => some [(a.1 + 3, a.2.1, q.2 :: rest, q.1, sAll a.2.2.2.2 σ cs)])) else none
def cOuts (a : AS) (σ : List Nat) (cv xv : List AV) (rest : List AV) (cells : HP) : List (AV × GI × HP) → Option (List AS)
  | [] => some []
  | o :: r => match cOut a σ cv xv rest cells o, cOuts a σ cv xv rest cells r with
    | some L1, some L2 => some (L1 ++ L2)
    | _, _ => none
theorem cOuts_mem {a : AS} {σ : List Nat} {cv xv rest : List AV} {cells : HP} : ∀ {outs : List (AV × GI × HP)} {L : List AS} {o : AV × GI × HP}, cOuts a σ cv xv rest cells outs = some L → o ∈ outs → ∃ L', cOut a σ cv xv rest cells o = some L' ∧ ∀ b ∈ L', b ∈ L
  | [], _, _, _, h => by cases h
  | x :: r, L, o, h, ho => by
    unfold cOuts at h
    split at h
    · rename_i L1 L2 h1 h2
      cases h
      rcases List.mem_cons.mp ho with rfl | ho
      · exact ⟨L1, h1, fun b hb => List.mem_append_left _ hb⟩
      · obtain ⟨L', e1, e2⟩ := cOuts_mem h2 ho
        exact ⟨L', e1, fun b hb => List.mem_append_right _ (e2 b hb)⟩
    · cases h
def cll (R : Nat × Nat) (a : AS) (k : Con) (σ : List Nat) : Option (List AS) :=
  if k.2.2.1.1.length ≤ a.2.2.1.length ∧ va_nd σ = true ∧ (((a.2.2.1.drop k.2.2.1.1.length).map catA).sum ≤ 8 ∧ (a.2.2.1.drop k.2.2.1.1.length).all (fun q => decide (q.1 ≠ 8)) = true) ∧ k.2.1.1 + 1 ≤ R.1 ∧ 8 + (k.1.2.2.1 + 11) + k.2.1.2 ≤ R.2 then (match gAll a.2.2.2.2 σ with
    | none => none
    | some cells => if mtc σ a.2.2.2.1 k.2.2.1.2.1 0 k.2.2.1.1 (a.2.2.1.take k.2.2.1.1.length).reverse && (mtC σ a.2.2.2.1 k.2.2.1.2.1 k.2.2.1.1.length k.2.2.1.2.2 (cells.map Prod.snd) && decide (k.2.2.1.2.1.length = (k.2.2.1.1 ++ k.2.2.1.2.2.flatMap fldA).length)) then
        cOuts a σ (k.2.2.1.1 ++ k.2.2.1.2.2.flatMap fldA) ((a.2.2.1.take k.2.2.1.1.length).reverse ++ (cells.map Prod.snd).flatMap fldA) (a.2.2.1.drop k.2.2.1.1.length) cells k.2.2.2 else none) else none
theorem zf2_take {α β : Type} {R : α → β → Prop} : ∀ {n : Nat} {as : List α} {bs : List β}, zf2 R as bs → zf2 R (as.take n) (bs.take n) ∧ zf2 R (as.drop n) (bs.drop n)
  | 0, as, bs, h => ⟨by simp [zf2], by simpa using h⟩
  | n + 1, [], [], _ => ⟨by simp [zf2], by simp [zf2]⟩
  | n + 1, [], _ :: _, h => h.elim
  | n + 1, _ :: _, [], h => h.elim
  | n + 1, a :: as, b :: bs, h => by
    have ih := zf2_take (n := n) h.2
    exact ⟨⟨h.1, ih.1⟩, ih.2⟩
theorem zf2_apps {α β : Type} {R : α → β → Prop} : ∀ {as as' : List α} {bs bs' : List β}, zf2 R as bs → zf2 R as' bs' → zf2 R (as ++ as') (bs ++ bs')
  | [], _, [], _, _, h => h
  | [], _, _ :: _, _, h, _ => h.elim
  | _ :: _, _, [], _, h, _ => h.elim
  | _ :: as, _, _ :: bs, _, h, h' => ⟨h.1, zf2_apps (as := as) (bs := bs) h.2 h'⟩
theorem zf2_rev {α β : Type} {R : α → β → Prop} : ∀ {as : List α} {bs : List β}, zf2 R as bs → zf2 R as.reverse bs.reverse
  | [], [], _ => trivial
  | [], _ :: _, h => h.elim
  | _ :: _, [], h => h.elim
  | a :: as, b :: bs, h => by
    rw [List.reverse_cons, List.reverse_cons]
    exact zf2_apps (zf2_rev (as := as) (bs := bs) h.2) ⟨h.1, trivial⟩
theorem zf2_fld {g : List Int} {V : EV} {cA : Nat → ClassId} : ∀ {xs : List AC} {es : List va_E}, zf2 (relC g V cA) xs es → zf2 (gam g V) (xs.flatMap fldA) (es.flatMap fldE)
  | [], [], _ => trivial
  | [], _ :: _, h => h.elim
  | _ :: _, [], h => h.elim
  | .inl x :: xs, e :: es, h => by
    obtain ⟨x1, x2⟩ := x
    obtain ⟨vs, rfl, e5⟩ := relC_obj h.1
    simp only [List.flatMap_cons]
    exact zf2_apps e5 (zf2_fld (xs := xs) (es := es) h.2)
  | .inr x :: xs, e :: es, h => by
    simp only [List.flatMap_cons, relC_arr h.1]
    exact zf2_fld (xs := xs) (es := es) h.2
theorem zf2_map {α β γ : Type} {R : γ → β → Prop} {f : α → γ} : ∀ {as : List α} {bs : List β}, zf2 (fun a b => R (f a) b) as bs → zf2 R (as.map f) bs
  | [], [], _ => trivial
  | [], _ :: _, h => h.elim
  | _ :: _, [], h => h.elim
  | _ :: as, _ :: bs, h => ⟨h.1, zf2_map (as := as) (bs := bs) h.2⟩
theorem cat_sum {g : List Int} {V : EV} : ∀ {st : List AV} {sv : List Value}, zf2 (gam g V) st sv → st.all (fun q => decide (q.1 ≠ 8)) = true → (sv.map fun v => v.category).sum = (st.map catA).sum
  | [], [], _, _ => rfl
  | [], _ :: _, h, _ => h.elim
  | _ :: _, [], h, _ => h.elim
  | a :: st, v :: sv, h, ha => by
    simp only [List.all_cons, Bool.and_eq_true, decide_eq_true_eq] at ha
    simp only [List.map_cons, List.sum_cons]
    rw [gam_cat h.1 ha.1, cat_sum h.2 ha.2]
/-- a call that ends with a contract's end -/
theorem my_call {p : Program} {l : Launch} {e : Env} {R : Room} {s : State} {m : MethodId} {args : Array Value} {below : List Frame} {meth : Method} {c : Code} {H : Heap} {locs : List Loc} {cells slots : Nat} {Q : State → Prop} {pc : Nat} {ls : Array Slot} {rest st0 : List Value} {A0 A1 : Nat → Prop} {H0 : Heap} {free : Addr → Prop} {P : Outcome → State → Prop} (hr : va_Run p l e R s m args below meth c H locs cells slots 0 0 (F0 m pc ls st0) rest (fun st oc t => P oc t ∧ va_F A1 st t) free) (hS : va_S A0 H0 H locs) (hA : ∀ q, q < H.size → A1 q → A0 q) (hf : ∀ q, free q → A0 q)
    (kk : ∀ (v : Option Value) (t : State) (H1 : Heap) (locs1 : List Loc), t.heap = H1 → P (.returned v) t → H.size ≤ H1.size → (∀ q : Nat, q < H.size → ¬ A1 q → H1[q]? = H[q]?) → va_S A0 H0 H1 locs1 → W p l e R s m args below meth c H1 locs1 cells slots Q (F0 m (pc + 3) ls (v.toList ++ rest))) : W p l e R s m args below meth c H locs cells slots Q (F0 m pc ls st0) := by
  intro T hT X
  obtain ⟨v, st₀, t, T', L, h0, X', hL, e1, e2, ⟨hp, hz, hk⟩, st⟩ := hr T hT X
  rw [h0] at hz hk
  obtain ⟨t2, a1, b1⟩ := kk v t T'.heap (locs ++ L) e1.symm hp (by rw [e1]; exact hz) (fun q h1 h2 => by rw [e1]; exact hk q h1 h2)
    ⟨Nat.le_trans hS.1 (by rw [e1]; exact hz), fun q h1 h2 => by rw [e1, hk q (Nat.lt_of_lt_of_le h1 hS.1) (fun z => h2 (hA q (Nat.lt_of_lt_of_le h1 hS.1) z))]; exact hS.2.1 q h1 h2, fun q hq => by
      rcases List.mem_append.mp hq with h | h
      · exact hS.2.2 q h
      · exact hf _ (hL q h)⟩ T' rfl X'
  exact ⟨t2, st t2 a1, b1⟩
theorem zw_sub {ad ac : List Nat} {es ec : List va_E} {σ : List Nat} (h1 : gAll ad σ = some ac) (h2 : gAll es σ = some ec) : σ.map (fun i => (zw ad es)[i]?) = (zw ac ec).map some := by
  have k1 := gAll_ok h1
  have k2 := gAll_ok h2
  apply List.ext_getElem?
  intro k
  rw [List.getElem?_map, List.getElem?_map]
  cases hk : σ[k]? with
  | none =>
    have hlen : σ.length ≤ k := by
      rcases Nat.lt_or_ge k σ.length with q | q
      · rw [List.getElem?_eq_getElem q] at hk; cases hk
      · exact q
    cases hz : (zw ac ec)[k]? with
    | none => rfl
    | some q =>
      have := (zw_inv hz).1
      rw [List.getElem?_eq_none (by rw [← k1.1]; exact hlen)] at this
      cases this
  | some i =>
    obtain ⟨e1, a, e2⟩ := k1.2 k i hk
    obtain ⟨e3, b, e4⟩ := k2.2 k i hk
    rw [zw_get (e1.trans e2) (e3.trans e4)]
    simp only [Option.map_some]
    rw [zw_get e2 e4]
theorem va_D_len {A : Nat → Prop} {ad : List Nat} {es es' : List va_E} (h : va_D A (zw ad es)) (h1 : es.length = ad.length) : va_D A (zw ad es') := by
  have key : ∀ (k : Nat) (q : Nat × va_E), (zw ad es')[k]? = some q → ∃ e0, (zw ad es)[k]? = some (q.1, e0) := fun k q hq => by
    have h3 := (zw_inv hq).1
    have hlt : k < es.length := by rw [h1]; exact (List.getElem?_eq_some_iff.mp h3).1
    exact ⟨es[k], zw_get h3 (List.getElem?_eq_getElem hlt)⟩
  refine ⟨fun i j a b ha hb hab => ?_, fun k q hq => ?_⟩
  · obtain ⟨e1, k1⟩ := key i a ha
    obtain ⟨e2, k2⟩ := key j b hb
    exact h.1 i j _ _ k1 k2 hab
  · obtain ⟨e1, k1⟩ := key k q hq
    exact h.2 k (q.1, e1) k1
end
section
/-! ===== a call by a contract is right ===== -/
theorem va_P_sub {D : va_G} {cl : List vw_C} {ws ws' : va_W} {H : Heap} {σ : List Nat} (h : va_P D cl ws H) (hs : σ.map (fun i => ws[i]?) = ws'.map some) : va_P D cl ws' H := fun k q hk => by
  have h1 : (σ.map (fun i => ws[i]?))[k]? = some (some q) := by rw [hs, List.getElem?_map, hk]; rfl
  rw [List.getElem?_map] at h1
  cases hi : σ[k]? with
  | none => rw [hi] at h1; cases h1
  | some i => rw [hi] at h1; exact h i q (Option.some.inj h1)
theorem sg_or (σ : List Nat) (j : Nat) : (∃ k : Nat, σ[k]? = some j) ∨ j ∉ σ := by
  by_cases h : j ∈ σ
  · exact Or.inl (List.getElem?_of_mem h)
  · exact Or.inr h
theorem HS_join {D : va_G} {cl : List vw_C} {A : Nat → Prop} {H0 : Heap} {V : EV} {cA : Nat → ClassId} {es0 : List va_E} {hp : HP} {g : List Int} {es : List va_E} {H H1 : Heap} {locs locs1 : List Loc} {σ ac : List Nat} {ec es' : List va_E} {cells cs : HP} (h : HS D cl A H0 V cA es0 hp g es H locs) (hnd : va_nd σ = true) (hce : gAll hp σ = some cells) (hec : gAll es σ = some ec) (hac : gAll V.2 σ = some ac) (hcs : zf2 (fun (x : Bool × AC) (y : va_E) => relC g V cA x.2 y) cs es') (hcl : cs.length = cells.length) (hel : es'.length = ac.length) (hkp : ∀ (j : Nat) (q : Bool × AC), cs[j]? = some q → q.1 = false → cells[j]? = some q ∧ es'[j]? = ec[j]?)
    (hk : ∀ q : Nat, q < H.size → ¬ va_A (zw ac ec) H.size q → H1[q]? = H[q]?) (hP1 : va_P D cl (zw ac es') H1) (hS1 : va_S A H0 H1 locs1) : HS D cl A H0 V cA es0 (sAll hp σ cs) g (sAll es σ es') H1 locs1 := by
  obtain ⟨a1, a2, a3, a4, a5, a6⟩ := h
  have kc := gAll_ok hce
  have ke := gAll_ok hec
  have ka := gAll_ok hac
  have hb1 : ∀ j ∈ σ, j < hp.length := fun j hj => by
    obtain ⟨k, hk⟩ := List.getElem?_of_mem hj
    obtain ⟨-, x, hx⟩ := kc.2 k j hk
    exact (List.getElem?_eq_some_iff.mp hx).1
  have hb2 : ∀ j ∈ σ, j < es.length := fun j hj => by rw [← zf2_len a1]; exact hb1 j hj
  have hl1 : σ.length = cs.length := kc.1.trans hcl.symm
  have hl2 : σ.length = es'.length := ka.1.trans hel.symm
  refine ⟨?_, ?_, ?_, ?_, hS1, by rw [sAll_len]; exact a6⟩
  · refine zf2_of (by rw [sAll_len, sAll_len]; exact zf2_len a1) (fun i x y hx hy => ?_)
    rcases sg_or σ i with ⟨k, hk⟩ | hno
    · rw [sAll_in hnd hl1 hb1 hk] at hx
      rw [sAll_in hnd hl2 hb2 hk] at hy
      obtain ⟨b, e1, e2⟩ := zf2_get hcs hx
      rw [hy] at e1
      cases e1
      exact e2
    · rw [sAll_out hno] at hx hy
      obtain ⟨b, e1, e2⟩ := zf2_get a1 hx
      rw [hy] at e1
      cases e1
      exact e2
  · intro j q hj hq
    rcases sg_or σ j with ⟨k, hk⟩ | hno
    · rw [sAll_in hnd hl1 hb1 hk] at hj
      obtain ⟨e1, e2⟩ := hkp k q hj hq
      rw [sAll_in hnd hl2 hb2 hk, e2, (ke.2 k j hk).1]
      exact a2 j q ((kc.2 k j hk).1.symm.trans e1) hq
    · rw [sAll_out hno] at hj ⊢
      exact a2 j q hj hq
  · intro i q hq
    obtain ⟨q1, q2⟩ := zw_inv hq
    rcases sg_or σ i with ⟨k, hk'⟩ | hno
    · rw [sAll_in hnd hl2 hb2 hk'] at q2
      have h3 : ac[k]? = some q.1 := (ka.2 k i hk').1.trans q1
      exact hP1 k q (zw_get h3 q2)
    · rw [sAll_out hno] at q2
      have h4 : (zw V.2 es)[i]? = some q := zw_get q1 q2
      have h5 := a3 i q h4
      refine h5.kept (hk q.1 h5.lt (fun hA => ?_))
      rcases hA with ⟨k, e, h6⟩ | h6
      · have h7 := (zw_inv h6).1
        have h7e := (zw_inv h6).2
        have hkl : k < σ.length := by rw [ka.1]; exact (List.getElem?_eq_some_iff.mp h7).1
        have h8 : σ[k]? = some σ[k] := List.getElem?_eq_getElem hkl
        have h9 := (ka.2 k _ h8).1
        have h10 := (ke.2 k _ h8).1
        have h11 : (zw V.2 es)[σ[k]]? = some (q.1, e) := zw_get (h9.symm.trans h7) (h10.symm.trans h7e)
        have := a4.1 i σ[k] _ _ h4 h11 rfl
        exact hno (by rw [this]; exact List.getElem_mem hkl)
      · exact absurd h5.lt (by omega)
  · exact va_D_len a4 a6
section CLL
variable {p : Program} {l : Launch} {e : Env} {R : Room} {s : State} {m : MethodId} {args : Array Value} {below : List Frame} {meth : Method} {c : Code} {cs0 ss0 : Nat} {Q : State → Prop} {cc : ByteArray} {own : String} {Ts : List Jvm.Cond} {D : va_G} {cl : List vw_C} {A : Nat → Prop} {V : EV} {cA : Nat → ClassId} {es0 : List va_E} {g0 : List Int}
set_option maxHeartbeats 2000000 in
theorem cll_ok (hx : p.tables.exec = Jvm.exec) (hb : c.code = cc) {nL : Nat} (hml : c.maxLocals = nL) (hown : s.vm.findClass own = some m.cls) (hts : ∀ w ∈ Ts, w.before args s = true) (hK : va_K D cl (tysA cA) s) (hN : NOK s) (hA : ∀ q, s.heap.size ≤ q → A q) (hcs : cs0 ≤ R.cells) (hss : ss0 ≤ R.slots) (hgood : ∀ w ∈ Ts, GoodIn Ts (w :: Ts)) {k : Con} (hv : Vld l cl Ts k) {i : Nat} {b : Bool} (hC : COK own cl Ts i b k) {a : AS} {σ : List Nat} {L : List AS}
    (hd : decode cc a.1 = .ok (if b then .invokestatic i else .invokevirtual i, 3)) (h : cll (R.frames, R.locals) a k σ = some L) (hL : ∀ x ∈ L, WA (WW p l e R s m args below meth c cs0 ss0 Q) m nL D cl A s.heap V cA es0 g0 x) : WA (WW p l e R s m args below meth c cs0 ss0 Q) m nL D cl A s.heap V cA es0 g0 a := by
  intro g lv sv es ls H locs h0 hG hlv hl hs hH
  unfold cll at h
  split at h
  · rename_i hc0
    obtain ⟨hn1, hnd, ⟨hsum, hall⟩, hfr, hlo⟩ := hc0
    split at h
    · cases h
    · rename_i cells hce
      split at h
      · rename_i hm
        simp only [Bool.and_eq_true, decide_eq_true_eq] at hm
        obtain ⟨hm1, hm2, hm3⟩ := hm
        obtain ⟨hz1, hz2⟩ := zf2_take (n := k.2.2.1.1.length) hs
        have hvs := zf2_rev hz1
        generalize hvse : (sv.take k.2.2.1.1.length).reverse = vs at hvs
        generalize hrse : sv.drop k.2.2.1.1.length = rs at hz2
        obtain ⟨ec, hec, hzc0⟩ := gAll_zf hH.1 hce
        have hzc : zf2 (relC g V cA) (cells.map Prod.snd) ec := zf2_map hzc0
        obtain ⟨ac, hac0⟩ := gAll_len (m := V.2) hH.2.2.2.2.2 hec
        have hac : ∀ (r j : Nat), σ[r]? = some j → ac[r]? = V.2[j]? := fun r j hj => ((gAll_ok hac0).2 r j hj).1
        have hsl : σ.length = ac.length := (gAll_ok hac0).1
        have hecl : ec.length = ac.length := by rw [← (gAll_ok hec).1]; exact hsl
        have hlen1 : k.2.2.1.1.length = vs.length := (mtc_len hm1).trans (zf2_len hvs)
        obtain ⟨k1, k1g⟩ := mtc_ok hG hac (va := vs ++ ec.flatMap fldE) (ga := gcf (k.2.2.1.1 ++ k.2.2.1.2.2.flatMap fldA) (vs ++ ec.flatMap fldE)) (pre := []) (post := ec.flatMap fldE) (pg := []) (qg := gcf (k.2.2.1.2.2.flatMap fldA) (ec.flatMap fldE)) hvs hm1 (by simp) (by rw [gcf_app hlen1]; simp) rfl
        obtain ⟨k2, k2l, k2g⟩ := mtC_ok hG hac (va := vs ++ ec.flatMap fldE) (ga := gcf (k.2.2.1.1 ++ k.2.2.1.2.2.flatMap fldA) (vs ++ ec.flatMap fldE)) (pre := vs) (pg := gcf k.2.2.1.1 vs) hzc (by rw [← hlen1]; exact hm2) rfl (gcf_app hlen1) (gcf_len hlen1)
        have hcvl : (k.2.2.1.1 ++ k.2.2.1.2.2.flatMap fldA).length = (vs ++ ec.flatMap fldE).length := by rw [List.length_append, List.length_append, hlen1, k2l]
        have hGc : GS k.2.2.1.2.1 (gcf (k.2.2.1.1 ++ k.2.2.1.2.2.flatMap fldA) (vs ++ ec.flatMap fldE)) := by
          refine zf2_of (by rw [hm3, gcf_len hcvl, hcvl]) (fun j r z hr hz => ?_)
          rw [gcf_app hlen1] at hz
          by_cases hlt : j < vs.length
          · rw [List.getElem?_append_left (by rw [gcf_len hlen1]; exact hlt)] at hz
            obtain ⟨r', e1, e2⟩ := k1g j z hz
            simp only [List.length_nil, Nat.zero_add] at e1
            rw [hr] at e1; cases e1; exact e2
          · rw [List.getElem?_append_right (by rw [gcf_len hlen1]; omega), gcf_len hlen1] at hz
            obtain ⟨r', e1, e2⟩ := k2g _ z hz
            rw [show vs.length + (j - vs.length) = j by omega] at e1
            rw [hr] at e1; cases e1; exact e2
        have hM := hv D cA _ (vs ++ ec.flatMap fldE) ac ec vs H.size hGc k1 k2 hecl
        have hsub := zw_sub hac0 hec
        have hPs := va_P_sub hH.2.2.1 hsub
        have hDs := hH.2.2.2.1.sub σ hnd hsub
        have hFc := va_free hH.2.2.2.1 hH.2.2.2.2.1 hA σ hsub
        obtain ⟨c1, c2, c3, c4, c5, c6⟩ := hC
        have hblind : FrameBlind (PcC D cl cA vs ac ec H.size) := fun a' U g' mk q => by
          obtain ⟨q0, q1, qP, qK, qD, qN⟩ := q
          exact ⟨q0, q1, qP, va_K.moved (u := U) (U := U.calling g' mk a') (Vm.Alike.refl U.vm) qK, qD, NOK_same rfl qN⟩
        have hpre : ∀ U : State, U.heap = H → s.WarmedH U.vm → PcC D cl cA vs ac ec H.size vs.toArray U := fun U hU hW => ⟨rfl, by rw [hU], by rw [hU]; exact hPs, va_K.moved hW.alike hK, hDs.weaken (fun _ _ _ _ => trivial), NOK_warm hW hN⟩
        have hroom : 2 * (F0 m a.1 ls rs).monitorRoom + (rs.map fun v => v.category).sum ≤ 8 := lv_room (m := m) (pc := a.1) (ls := ls) (rest := rs) (st := rs) (by rw [cat_sum hz2 hall]; exact hsum)
        have hsv : sv = vs.reverse ++ rs := by rw [← hvse, ← hrse, List.reverse_reverse, List.take_append_drop]
        have hrun : va_Run p l e R s m args below meth c H locs cs0 ss0 0 0 (F0 m a.1 ls sv) rs (fun st oc t => OutC D cl cA k.2.2.2 (gcf (k.2.2.1.1 ++ k.2.2.1.2.2.flatMap fldA) (vs ++ ec.flatMap fldE)) (vs ++ ec.flatMap fldE) ac ec oc t ∧ va_F (va_A (zw ac ec) H.size) st t) (va_A (zw ac ec) H.size) := by
          cases b with
          | true =>
            obtain ⟨d1, d2⟩ := c5 rfl
            exact va_runS (As := vs) (rest := rs) ⟨hx, hb, hml, hown, hts⟩ hM ⟨callB_of k.2.2.1.1.length hts (hgood _ c1) rfl rfl rfl (hts _ c3) (hts _ c2) ⟨c4.1, c4.2, d2⟩ ⟨hfr, hlo⟩, hts _ d1⟩ ⟨hblind, hpre⟩ rfl hlen1.symm hlv.1 hsv hroom hd ⟨hcs, hss⟩
          | false =>
            obtain ⟨d1, d2, ⟨as, d3, d4⟩, ci, fs, F, N, d5, d6⟩ := c6 rfl
            rw [d3] at k1
            obtain ⟨v0, As, rfl, k3, k4⟩ := zf2_cons k1
            obtain ⟨r, k5, k6⟩ := k3
            subst k6
            obtain ⟨e0, k7, k8⟩ := zf2_get k2 d5
            obtain ⟨fv, rfl, k9⟩ := relC_obj k8
            have hrec := va_recv hK hPs d6 (zw_get (k := 0) k5 k7)
            exact va_runV (As := As) (rest := rs) ⟨hx, hb, hml, hown, hts⟩ hM ⟨callB_of as.length hts (hgood _ c1) rfl rfl rfl (hts _ c3) (hts _ c2) ⟨c4.1, c4.2, d4⟩ ⟨hfr, hlo⟩, hts _ d1, hts _ d2⟩ ⟨hblind, hrec, hpre⟩ rfl (by have := zf2_len k4; omega) hlv.1 (by show sv = _; rw [hsv]; simp) hroom hd ⟨hcs, hss⟩
        refine my_call (A0 := A) hrun hH.2.2.2.2.1 (fun q _ hq => hFc q hq) hFc (fun v t H1 locs1 ht hO hsz hk hS1 => ?_)
        obtain ⟨o, ho, es', hret, hGo, hzo, hkp, hPo, hel⟩ := hO
        rw [ht] at hPo
        obtain ⟨L', hL', hsubL⟩ := cOuts_mem h ho
        have hxv : zf2 (gam g V) ((a.2.2.1.take k.2.2.1.1.length).reverse ++ (cells.map Prod.snd).flatMap fldA) (vs ++ ec.flatMap fldE) := zf2_apps hvs (zf2_fld hzc)
        unfold cOut at hL'
        split at hL'
        · rename_i hol
          split at hL'
          · cases hL'
          · rename_i cs hcs
            obtain ⟨t1, t2, t3⟩ := trH_ok hxv hac hsl hzo hzc0 hkp hcs
            obtain ⟨G', r1, r2⟩ := rfn_ok hG hxv hGo hcvl
            rw [r1] at hL'
            dsimp only at hL'
            have hJ := HS_join (es' := es') hH hnd hce hec hac0 t1 t2 (hel) t3 hk hPo hS1
            split at hL'
            · rename_i h9
              cases hL'
              have hvn : v = none := by
                rcases hret with ⟨-, q2⟩ | ⟨q1, -⟩
                · cases q2; rfl
                · exact absurd h9 q1
              subst hvn
              exact hL _ (hsubL _ (List.mem_singleton.mpr rfl)) g lv _ _ ls H1 locs1 h0 r2 hlv hl (by simpa using hz2) hJ
            · rename_i h9
              split at hL'
              · cases hL'
              · rename_i r hr
                split at hL'
                · cases hL'
                · rename_i q hq
                  cases hL'
                  have hvs2 : ∃ w, v = some w ∧ gam (gcf (k.2.2.1.1 ++ k.2.2.1.2.2.flatMap fldA) (vs ++ ec.flatMap fldE)) (vs ++ ec.flatMap fldE, ac) o.1 w := by
                    rcases hret with ⟨q1, -⟩ | ⟨-, w, q2, q3⟩
                    · exact absurd q1 h9
                    · cases q2; exact ⟨w, rfl, q3⟩
                  obtain ⟨w, rfl, hw⟩ := hvs2
                  have hw2 := trV_ok hxv hac hsl hw hr
                  obtain ⟨g', x1, x2, x3⟩ := nam_ok r2 hw2 hq
                  exact hL _ (hsubL _ (List.mem_singleton.mpr rfl)) g' lv _ _ ls H1 locs1 (gxt_tr h0 x1) x2 hlv (loc_ext x1 hl) ⟨x3, st_ext x1 hz2⟩ (HS_ext x1 hJ)
        · cases hL'
      · cases h
  · cases h
end CLL
end
section
/-! ===== a whole method ===== -/
/-- System.arraycopy of a whole row of ints -/
def acp (R : Nat × Nat) (a : AS) : Option (List AS) := match a.2.2.1 with
  | n :: dp :: y :: sp :: x :: st => if x.1 = 6 ∧ y.1 = 6 ∧ 1 ≤ R.1 ∧ (st.map catA).sum + (nativeFrameWords "java/lang/System" "arraycopy" 5 + 11) ≤ R.2 ∧ st.all (fun q => decide (q.1 ≠ 8)) = true then (match a.2.2.2.2[x.2.1.toNat]?, a.2.2.2.2[y.2.1.toNat]?, ivI a.2.2.2.1 n, ivI a.2.2.2.1 dp, ivI a.2.2.2.1 sp with
    | some (_, .inr (1, s1)), some (_, .inr (1, s2)), some qn, some qd, some qs => if qn.1 = (tot s1 : Int) ∧ qn.2 = (tot s1 : Int) ∧ tot s1 = tot s2 ∧ qd.1 = 0 ∧ qd.2 = 0 ∧ qs.1 = 0 ∧ qs.2 = 0 then some [(a.1 + 3, a.2.1, st, a.2.2.2.1, a.2.2.2.2.set y.2.1.toNat (true, .inr (1, s1)))] else none
    | _, _, _, _, _ => none) else none
  | _ => none
abbrev CTB : Type := List (Nat × Nat × Bool × Con × List Nat)
/-- the first contract for this place that fits -/
def trc (b : Bool) (i : Nat) (R : Nat × Nat) (a : AS) : CTB → Option (List AS)
  | [] => none
  | q :: r => if q.1 = a.1 ∧ q.2.1 = i ∧ q.2.2.1 = b then (match cll R a q.2.2.2.1 q.2.2.2.2 with
    | some L => some L
    | none => trc b i R a r) else trc b i R a r
theorem trc_mem {b : Bool} {i : Nat} {R : Nat × Nat} {a : AS} : ∀ {CT : CTB} {L : List AS}, trc b i R a CT = some L → ∃ q ∈ CT, q.2.1 = i ∧ q.2.2.1 = b ∧ cll R a q.2.2.2.1 q.2.2.2.2 = some L
  | [], _, h => by cases h
  | q :: r, L, h => by
    unfold trc at h
    split at h
    · rename_i hc
      split at h
      · rename_i L' hL
        cases h
        exact ⟨q, List.mem_cons_self, hc.2.1, hc.2.2, hL⟩
      · obtain ⟨q', h1, h2⟩ := trc_mem h
        exact ⟨q', List.mem_cons_of_mem _ h1, h2⟩
    · obtain ⟨q', h1, h2⟩ := trc_mem h
      exact ⟨q', List.mem_cons_of_mem _ h1, h2⟩
def stpC (BT : List (Nat × Nat)) (CT : CTB) (R : Nat × Nat) (ins : ClassFile.Instr) (len : Nat) (a : AS) : Option (List AS) := match ins with
  | .invokevirtual i => if len = 3 then trc false i R a CT else none
  | .invokestatic i => if len = 3 then (match look BT i with
    | some 1 => acp R a
    | _ => trc true i R a CT) else none
  | _ => none
def stp (T : TB) (BT : List (Nat × Nat)) (CT : CTB) (R : Nat × Nat) (ins : ClassFile.Instr) (len : Nat) (a : AS) : Option (List AS) := match stpA T ins len a with
  | some L => some L
  | none => match stpH T ins len a with
    | some L => some L
    | none => stpC BT CT R ins len a
def subG : GI → GI → Bool
  | _, [] => true
  | p :: ps, q :: qs => decide (q.1 ≤ p.1 ∧ p.2 ≤ q.2) && subG ps qs
  | [], _ :: _ => false
def subH (n : Nat) (G : GI) : HP → HP → Bool
  | [], [] => true
  | x :: xs, y :: ys => (if y.1 = true then subC n G x.2 y.2 else decide (x.1 = false)) && subH n G xs ys
  | _, _ => false
def subO (n : Nat) (a : AS) (v : AV) (o : AV × GI × HP) : Bool := (if v.1 = 9 then decide (o.1.1 = 9) else decide (o.1.1 ≠ 9) && subV n a.2.2.2.1 v o.1) && (decide (o.2.1.length = n) && (subG a.2.2.2.1 o.2.1 && subH n a.2.2.2.1 a.2.2.2.2 o.2.2))
def fin (ret : Option FieldType) (n : Nat) (outs : List (AV × GI × HP)) (ins : ClassFile.Instr) (len : Nat) (a : AS) : Bool := match ins with
  | .ireturn => match a.2.2.1 with
    | [v] => decide (len = 1 ∧ v.1 ≤ 2) && ((decide (ret = some .int) || (decide (ret = some .boolean) && (match ivI a.2.2.2.1 v with
      | some q => decide (0 ≤ q.1 ∧ q.2 ≤ 1)
      | none => false))) && outs.any (subO n a v))
    | _ => false
  | .lreturn => match a.2.2.1 with
    | [v] => decide (len = 1 ∧ 3 ≤ v.1 ∧ v.1 ≤ 5 ∧ ret = some .long) && outs.any (subO n a v)
    | _ => false
  | .return_ => match a.2.2.1 with
    | [] => decide (len = 1 ∧ ret = none) && outs.any (subO n a (9, 0, 0))
    | _ => false
  | _ => false
def run (T : TB) (BT : List (Nat × Nat)) (CT : CTB) (R : Nat × Nat) (ret : Option FieldType) (n : Nat) (outs : List (AV × GI × HP)) : Nat → AS → Bool
  | 0, _ => false
  | f + 1, a => match look T.1 a.1 with
    | none => false
    | some q => fin ret n outs q.1 q.2 a || (match stp T BT CT R q.1 q.2 a with
      | some L => L.all (run T BT CT R ret n outs f)
      | none => false)
def BOK (own : String) (Ts : List Jvm.Cond) (BT : List (Nat × Nat)) : Prop := ∀ q ∈ BT, q.2 = 1 → Jvm.Cond.methodLink own q.1 arraycopyName ∈ Ts ∧ Jvm.Cond.native arraycopyName ∈ Ts ∧ Jvm.Cond.static arraycopyName ∈ Ts ∧ Jvm.Cond.initialized "java/lang/System" ∈ Ts
def CTOK (l : Launch) (own : String) (cl : List vw_C) (Ts : List Jvm.Cond) (CT : CTB) : Prop := ∀ q ∈ CT, Vld l cl Ts q.2.2.2.1 ∧ COK own cl Ts q.2.1 q.2.2.1 q.2.2.2.1
section RUN
variable {p : Program} {l : Launch} {e : Env} {R : Room} {s : State} {m : MethodId} {args : Array Value} {below : List Frame} {meth : Method} {c : Code} {cs0 ss0 : Nat} {Q : State → Prop} {cc : ByteArray} {own : String} {Ts : List Jvm.Cond} {D : va_G} {cl : List vw_C} {A : Nat → Prop} {V : EV} {cA : Nat → ClassId} {es0 : List va_E} {g0 : List Int}
theorem ae_int0 {q : Int × Int} {x : Int32} {z : Int} (h : inI q x.toInt) (h1 : q.1 = z) (h2 : q.2 = z) : x.toInt = z := by unfold inI at h; omega
theorem acp_ok (hx : p.tables.exec = Jvm.exec) (hb : c.code = cc) {nL : Nat} (hml : c.maxLocals = nL) (hown : s.vm.findClass own = some m.cls) (hts : ∀ w ∈ Ts, w.before args s = true) (hK : va_K D cl (tysA cA) s) {i : Nat} (hB : Jvm.Cond.methodLink own i arraycopyName ∈ Ts ∧ Jvm.Cond.native arraycopyName ∈ Ts ∧ Jvm.Cond.static arraycopyName ∈ Ts ∧ Jvm.Cond.initialized "java/lang/System" ∈ Ts) {a : AS} {L : List AS}
    (hd : decode cc a.1 = .ok (.invokestatic i, 3)) (h : acp (R.frames, R.locals) a = some L) (hL : ∀ x ∈ L, WA (WW p l e R s m args below meth c cs0 ss0 Q) m nL D cl A s.heap V cA es0 g0 x) : WA (WW p l e R s m args below meth c cs0 ss0 Q) m nL D cl A s.heap V cA es0 g0 a := by
  intro g lv sv es ls H locs h0 hG hlv hl hs hH
  unfold acp at h
  split at h
  · rename_i n dp y sp x st hst
    split at h
    · rename_i hc0
      obtain ⟨ht1, ht2, hf1, hf2, hall⟩ := hc0
      split at h
      · rename_i f1 s1 f2 s2 qn qd qs hc1 hc2 hqn hqd hqs
        split at h
        · rename_i hc
          cases h
          rw [hst] at hs
          obtain ⟨w1, sv1, rfl, g1, hs1⟩ := zf2_cons hs
          obtain ⟨w2, sv2, rfl, g2, hs2⟩ := zf2_cons hs1
          obtain ⟨w3, sv3, rfl, g3, hs3⟩ := zf2_cons hs2
          obtain ⟨w4, sv4, rfl, g4, hs4⟩ := zf2_cons hs3
          obtain ⟨w5, sv5, rfl, g5, hs5⟩ := zf2_cons hs4
          obtain ⟨xn, rfl, en⟩ := ivI_ok hG g1 hqn
          obtain ⟨xd, rfl, ed⟩ := ivI_ok hG g2 hqd
          obtain ⟨xs, rfl, exs⟩ := ivI_ok hG g4 hqs
          have en' := ae_int0 en hc.1 hc.2.1
          have ed' := ae_int0 ed hc.2.2.2.1 hc.2.2.2.2.1
          have es' := ae_int0 exs hc.2.2.2.2.2.1 hc.2.2.2.2.2.2
          obtain ⟨a1, n1, rfl, b1, b2, b3, b4⟩ := HS_get hH g5 ht1 hc1
          obtain ⟨a2, n2, rfl, d1, d2, d3, d4⟩ := HS_get hH g3 ht2 hc2
          obtain ⟨ff, rfl, k1, k2⟩ := relC_arI b3 (Or.inr (Or.inl rfl))
          obtain ⟨fg, rfl, k3, k4⟩ := relC_arI d3 (Or.inr (Or.inl rfl))
          have zn : xn.toNatClampNeg = tot s1 := by rw [ae_cl, en']; omega
          have zd : xd.toNatClampNeg = 0 := by rw [ae_cl, ed']; rfl
          have zs : xs.toNatClampNeg = 0 := by rw [ae_cl, es']; rfl
          refine va_copyi hx hb (hml.trans hlv.1.symm) hown (hts _ hB.1) (hts _ hB.2.1) (hts _ hB.2.2.1) (hts _ hB.2.2.2) hK hH.2.2.1 hH.2.2.2.1 hH.2.2.2.2.1 _ _ 1 1 b4 d4 rfl rfl rfl (by rw [ae_lt0, es']; omega) (by rw [ae_lt0, ed']; omega) (by rw [ae_lt0, en']; omega) (by rw [zn, zs]; omega) (by rw [zn, zd]; omega) (fun _ _ => rfl) hf1 (by rw [cat_sum hs5 hall]; exact hf2) hd (fun H1 locs1 p1 e1 s1' => ?_)
          refine hL _ (List.mem_singleton.mpr rfl) g lv _ _ ls H1 locs1 h0 hG hlv hl hs5 (HS_put hH d1 ?_ p1 e1 s1')
          refine ⟨Or.inr (Or.inl rfl), rfl, hc.2.2.1.symm, by rw [← hc.2.2.1]; exact k1, fun j bb hbb => ?_⟩
          have hj : j < tot s1 := lk_lt hbb
          rw [zs, zd, zn, pk_cpy_in (sp := 0) (dp := 0) (n := tot s1) (Nat.zero_le j) (by omega)]
          simpa using k2 j bb hbb
        · cases h
      · cases h
    · cases h
  · cases h
theorem stpC_ok (hx : p.tables.exec = Jvm.exec) (hb : c.code = cc) {nL : Nat} (hml : c.maxLocals = nL) (hown : s.vm.findClass own = some m.cls) (hts : ∀ w ∈ Ts, w.before args s = true) (hK : va_K D cl (tysA cA) s) (hN : NOK s) (hA : ∀ q, s.heap.size ≤ q → A q) (hcs : cs0 ≤ R.cells) (hss : ss0 ≤ R.slots) (hgood : ∀ w ∈ Ts, GoodIn Ts (w :: Ts)) {BT : List (Nat × Nat)} (hBT : BOK own Ts BT) {CT : CTB} (hCT : CTOK l own cl Ts CT) {a : AS} {ins : ClassFile.Instr} {len : Nat} {L : List AS}
    (hd : decode cc a.1 = .ok (ins, len)) (h : stpC BT CT (R.frames, R.locals) ins len a = some L) (hL : ∀ x ∈ L, WA (WW p l e R s m args below meth c cs0 ss0 Q) m nL D cl A s.heap V cA es0 g0 x) : WA (WW p l e R s m args below meth c cs0 ss0 Q) m nL D cl A s.heap V cA es0 g0 a := by
  unfold stpC at h
  split at h
  · split at h
    · rename_i i hc
      subst hc
      obtain ⟨q, q1, q2, q3, q4⟩ := trc_mem h
      obtain ⟨v1, v2⟩ := hCT _ q1
      rw [q2, q3] at v2
      exact cll_ok hx hb hml hown hts hK hN hA hcs hss hgood v1 v2 hd q4 hL
    · cases h
  · split at h
    · rename_i i hc
      subst hc
      split at h
      · rename_i hlk2
        exact acp_ok hx hb hml hown hts hK (hBT _ (look_mem hlk2) rfl) hd h hL
      · obtain ⟨q, q1, q2, q3, q4⟩ := trc_mem h
        obtain ⟨v1, v2⟩ := hCT _ q1
        rw [q2, q3] at v2
        exact cll_ok hx hb hml hown hts hK hN hA hcs hss hgood v1 v2 hd q4 hL
    · cases h
  · cases h
theorem subG_ok {g0 : List Int} : ∀ {G G' : GI} {g : List Int}, GS G g → gxt g0 g → G'.length = g0.length → subG G G' = true → GS G' g0 := by
  intro G G' g hG hx hl hs
  obtain ⟨ex, rfl⟩ := hx
  induction g0 generalizing G G' with
  | nil => cases G' with
    | nil => trivial
    | cons _ _ => simp at hl
  | cons z zs ih => cases G' with
    | nil => simp at hl
    | cons q qs => cases G with
      | nil => exact hG.elim
      | cons r rs =>
        simp only [subG, Bool.and_eq_true, decide_eq_true_eq] at hs
        have h1 := hG.1
        unfold inI at h1
        exact ⟨by unfold inI; omega, ih (G := rs) (G' := qs) (by simpa using hl) hs.2 hG.2⟩
theorem subH_ok {G : GI} {g g0 : List Int} {V : EV} {cA : Nat → ClassId} (hG : GS G g) (hx : gxt g0 g) : ∀ {xs ys : HP} {es : List va_E}, zf2 (fun (x : Bool × AC) (y : va_E) => relC g V cA x.2 y) xs es → subH g0.length G xs ys = true → zf2 (relK g0 V cA) ys es ∧ ∀ (j : Nat) (q : Bool × AC), ys[j]? = some q → q.1 = false → ∃ q', xs[j]? = some q' ∧ q'.1 = false
  | [], [], [], _, _ => ⟨trivial, fun j q hj => by simp at hj⟩
  | [], [], _ :: _, h, _ => h.elim
  | [], _ :: _, _, _, h => by simp [subH] at h
  | _ :: _, [], _, _, h => by simp [subH] at h
  | _ :: _, _ :: _, [], h, _ => h.elim
  | x :: xs, y :: ys, en :: es, h, hs => by
    simp only [subH, Bool.and_eq_true] at hs
    obtain ⟨h1, h2⟩ := hs
    have ih := subH_ok hG hx (xs := xs) (ys := ys) (es := es) h.2 h2
    refine ⟨⟨fun hy => ?_, ih.1⟩, fun j q hj hq => ?_⟩
    · rw [if_pos hy] at h1
      exact subC_ok hG hx h.1 h1
    · cases j with
      | zero =>
        simp at hj
        subst hj
        rw [if_neg (by rw [hq]; decide)] at h1
        exact ⟨x, rfl, of_decide_eq_true h1⟩
      | succ j => simpa using ih.2 j q (by simpa using hj) hq
theorem subO_ok {D : va_G} {cl : List vw_C} {H0 : Heap} {gv : List Value} {ad : List Nat} {outs : List (AV × GI × HP)} {a : AS} {v : AV} (h : outs.any (subO g0.length a v) = true) {g : List Int} {es : List va_E} {H : Heap} {locs : List Loc} {oc : Outcome} (hG : GS a.2.2.2.1 g) (hx : gxt g0 g) (hH : HS D cl A H0 (gv, ad) cA es0 a.2.2.2.2 g es H locs) (hoc : (v.1 = 9 ∧ oc = .returned none) ∨ (v.1 ≠ 9 ∧ ∃ w, oc = .returned (some w) ∧ gam g (gv, ad) v w)) {t : State} (ht : t.heap = H) : OutC D cl cA outs g0 gv ad es0 oc t := by
  obtain ⟨o, ho, h1⟩ := List.any_eq_true.mp h
  unfold subO at h1
  simp only [Bool.and_eq_true, decide_eq_true_eq] at h1
  obtain ⟨h1, h2, h3, h4⟩ := h1
  obtain ⟨k1, k2⟩ := subH_ok hG hx hH.1 h4
  refine ⟨o, ho, es, ?_, subG_ok hG hx h2 h3, k1, fun j q hj hq => ?_, by rw [ht]; exact hH.2.2.1, hH.2.2.2.2.2⟩
  · rcases hoc with ⟨e1, e2⟩ | ⟨e1, w, e2, e3⟩
    · rw [if_pos e1] at h1
      exact Or.inl ⟨of_decide_eq_true h1, e2⟩
    · rw [if_neg e1] at h1
      simp only [Bool.and_eq_true, decide_eq_true_eq] at h1
      exact Or.inr ⟨h1.1, w, e2, subV_ok hG hx e3 h1.2⟩
  · obtain ⟨q', e1, e2⟩ := k2 j q hj hq
    exact hH.2.1 j q' e1 e2
theorem fin_ok (hx : p.tables.exec = Jvm.exec) (hb : c.code = cc) {nL : Nat} {ret : Option FieldType} (hr : meth.sig.returnType = ret) (hlocks : meth.locks = false) {gv : List Value} {ad : List Nat} {outs : List (AV × GI × HP)} {a : AS} {ins : ClassFile.Instr} {len : Nat} (hd : decode cc a.1 = .ok (ins, len)) (h : fin ret g0.length outs ins len a = true) :
    WA (WW p l e R s m args below meth c 0 0 (MQ below (QcC D cl cA outs g0 gv ad es0 s.heap.size) args s 0 0 (va_A (zw ad es0) s.heap.size))) m nL D cl (va_A (zw ad es0) s.heap.size) s.heap (gv, ad) cA es0 g0 a := by
  intro g lv sv es ls H locs h0 hG hlv hl hs hH
  unfold fin at h
  split at h
  · split at h
    · rename_i v hst
      simp only [Bool.and_eq_true, decide_eq_true_eq] at h
      obtain ⟨⟨rfl, h1⟩, h2, h3⟩ := h
      rw [hst] at hs
      obtain ⟨w, sv1, rfl, g1, hs1⟩ := zf2_cons hs
      cases sv1 with
      | cons _ _ => exact hs1.elim
      | nil =>
        obtain ⟨x, rfl⟩ := gam_int g1 h1
        have hout : ∀ t : State, t.heap = H → s.WarmedH t.vm → QcC D cl cA outs g0 gv ad es0 s.heap.size args s (.returned (some (.int x))) t := fun t ht _ => ⟨subO_ok h3 hG h0 hH (Or.inr ⟨by omega, _, rfl, g1⟩) ht, hH.2.2.2.2.1.F ht⟩
        simp only [Bool.or_eq_true, Bool.and_eq_true, decide_eq_true_eq] at h2
        rcases h2 with rfl | ⟨rfl, h2⟩
        · exact W.iret hx hb hr hout hH.2.2.2.2.1.2.2 hd hlocks
        · split at h2
          · rename_i q hq
            have h2 := of_decide_eq_true h2
            obtain ⟨y, e1, e2⟩ := ivI_ok hG g1 hq
            cases e1
            unfold inI at e2
            rcases ae_b01 (x := x) (by omega) (by omega) with rfl | rfl
            · exact W.zret hx hb hr rfl hout hH.2.2.2.2.1.2.2 hd hlocks
            · exact W.zret hx hb hr rfl hout hH.2.2.2.2.1.2.2 hd hlocks
          · cases h2
    · cases h
  · split at h
    · rename_i v hst
      simp only [Bool.and_eq_true, decide_eq_true_eq] at h
      obtain ⟨⟨rfl, h1, h1', rfl⟩, h3⟩ := h
      rw [hst] at hs
      obtain ⟨w, sv1, rfl, g1, hs1⟩ := zf2_cons hs
      cases sv1 with
      | cons _ _ => exact hs1.elim
      | nil =>
        obtain ⟨x, rfl⟩ := gam_long g1 ⟨h1, h1'⟩
        have hout : ∀ t : State, t.heap = H → s.WarmedH t.vm → QcC D cl cA outs g0 gv ad es0 s.heap.size args s (.returned (some (.long x))) t := fun t ht _ => ⟨subO_ok h3 hG h0 hH (Or.inr ⟨by omega, _, rfl, g1⟩) ht, hH.2.2.2.2.1.F ht⟩
        exact W.lret hx hb hr hout hH.2.2.2.2.1.2.2 hd hlocks
    · cases h
  · split at h
    · rename_i hst
      simp only [Bool.and_eq_true, decide_eq_true_eq] at h
      obtain ⟨⟨rfl, rfl⟩, h3⟩ := h
      rw [hst] at hs
      cases sv with
      | cons _ _ => exact hs.elim
      | nil =>
        have hout : ∀ t : State, t.heap = H → s.WarmedH t.vm → QcC D cl cA outs g0 gv ad es0 s.heap.size args s (.returned none) t := fun t ht _ => ⟨subO_ok h3 hG h0 hH (Or.inl ⟨rfl, rfl⟩) ht, hH.2.2.2.2.1.F ht⟩
        exact W.vret hx hb hr hout hH.2.2.2.2.1.2.2 hd hlocks
    · cases h
  · cases h
end RUN
end
section
/-! ===== from a run to a contract ===== -/
def lva : Nat → List AV → List (Nat × AV)
  | _, [] => []
  | i, a :: r => (i, a) :: lva (if catA a = 2 then i + 2 else i + 1) r
theorem lva_ok {g : List Int} {V : EV} : ∀ {as : List AV} {vs : List Value} {i : Nat}, zf2 (gam g V) as vs → as.all (fun q => decide (q.1 ≠ 8)) = true → zf2 (locR g V) (lva i as) (lv_args i vs)
  | [], [], _, _, _ => trivial
  | [], _ :: _, _, h, _ => h.elim
  | _ :: _, [], _, h, _ => h.elim
  | a :: as, v :: vs, i, h, ha => by
    simp only [List.all_cons, Bool.and_eq_true, decide_eq_true_eq] at ha
    simp only [lva, lv_args]
    rw [← gam_cat h.1 ha.1]
    exact ⟨⟨rfl, h.1, ha.1⟩, lva_ok h.2 ha.2⟩
theorem sl_len {g : List Int} {V : EV} : ∀ {as : List AV} {vs : List Value}, zf2 (gam g V) as vs → as.all (fun q => decide (q.1 ≠ 8)) = true → (lg_sl vs).length = (as.map catA).sum
  | [], [], _, _ => rfl
  | [], _ :: _, h, _ => h.elim
  | _ :: _, [], h, _ => h.elim
  | a :: as, v :: vs, h, ha => by
    simp only [List.all_cons, Bool.and_eq_true, decide_eq_true_eq] at ha
    have ih := sl_len h.2 ha.2
    have hc := gam_cat h.1 ha.1
    unfold lg_sl at ih ⊢
    simp only [List.flatMap_cons, List.length_append, List.map_cons, List.sum_cons, ih]
    rcases lv_cat v with h1 | h1
    · rw [if_neg (by omega)]
      simp only [List.length_cons, List.length_nil]; omega
    · rw [if_pos h1]
      simp only [List.length_cons, List.length_nil]; omega
section MTH
variable {p : Program} {l : Launch} {e : Env} {R : Room} {s : State} {m : MethodId} {args : Array Value} {below : List Frame} {meth : Method} {c : Code} {cc : ByteArray} {own : String} {Ts : List Jvm.Cond} {D : va_G} {cl : List vw_C} {cA : Nat → ClassId} {es0 : List va_E} {g0 : List Int}
theorem run_ok (hx : p.tables.exec = Jvm.exec) (hb : c.code = cc) {T : TB} (hml : c.maxLocals = T.2.1) (hown : s.vm.findClass own = some m.cls) (hts : ∀ w ∈ Ts, w.before args s = true) (hK : va_K D cl (tysA cA) s) (hN : NOK s) (hgood : ∀ w ∈ Ts, GoodIn Ts (w :: Ts)) (hT : TOK own cl Ts cc T) {BT : List (Nat × Nat)} (hBT : BOK own Ts BT) {CT : CTB} (hCT : CTOK l own cl Ts CT) {ret : Option FieldType} (hr : meth.sig.returnType = ret) (hlocks : meth.locks = false) {gv : List Value} {ad : List Nat} {outs : List (AV × GI × HP)} : ∀ (f : Nat) (a : AS), run T BT CT (R.frames, R.locals) ret g0.length outs f a = true →
    WA (WW p l e R s m args below meth c 0 0 (MQ below (QcC D cl cA outs g0 gv ad es0 s.heap.size) args s 0 0 (va_A (zw ad es0) s.heap.size))) m T.2.1 D cl (va_A (zw ad es0) s.heap.size) s.heap (gv, ad) cA es0 g0 a := by
  intro f
  induction f with
  | zero => intro a h; simp [run] at h
  | succ f ih =>
    intro a h
    unfold run at h
    split at h
    · cases h
    · rename_i q hq
      have hd : decode cc a.1 = .ok (q.1, q.2) := hT.1 (a.1, q) (look_mem hq)
      simp only [Bool.or_eq_true] at h
      rcases h with h | h
      · exact fin_ok hx hb hr hlocks hd h
      · split at h
        · rename_i L hL
          have hall : ∀ b ∈ L, WA (WW p l e R s m args below meth c 0 0 (MQ below (QcC D cl cA outs g0 gv ad es0 s.heap.size) args s 0 0 (va_A (zw ad es0) s.heap.size))) m T.2.1 D cl (va_A (zw ad es0) s.heap.size) s.heap (gv, ad) cA es0 g0 b := fun b hb' => ih b (List.all_eq_true.mp h b hb')
          unfold stp at hL
          split at hL
          · rename_i L' h1
            cases hL
            exact stpA_ok hx hb hown hts hT hd h1 hall
          · split at hL
            · rename_i L' h1
              cases hL
              exact stpH_ok hx hb hown hts hK hT hd h1 hall
            · exact stpC_ok hx hb hml hown hts hK hN (fun q hq => Or.inr hq) (Nat.zero_le _) (Nat.zero_le _) hgood hBT hCT hd hL hall
        · cases h
end MTH
/-- the interpreter over a contract -/
def chk (T : TB) (BT : List (Nat × Nat)) (CT : CTB) (f : Nat) (k : Con) : Bool := k.2.2.1.1.all (fun q => decide (q.1 ≠ 8)) && (decide ((k.2.2.1.1.map catA).sum ≤ k.1.2.2.1) && (decide (T.2.1 = k.1.2.2.1) && run T BT CT k.2.1 k.1.2.2.2 k.2.2.1.2.1.length k.2.2.2 f (0, lva 0 k.2.2.1.1, [], k.2.2.1.2.1, k.2.2.1.2.2.map (fun c => (false, c)))))
theorem zf2_mapL {g : List Int} {V : EV} {cA : Nat → ClassId} : ∀ {cs : List AC} {es : List va_E}, zf2 (relC g V cA) cs es → zf2 (fun (x : Bool × AC) (y : va_E) => relC g V cA x.2 y) (cs.map (fun c => (false, c))) es
  | [], [], _ => trivial
  | [], _ :: _, h => h.elim
  | _ :: _, [], h => h.elim
  | _ :: cs, _ :: es, h => ⟨h.1, zf2_mapL (cs := cs) (es := es) h.2⟩
theorem con_ok {l : Launch} {cl : List vw_C} {Ts : List Jvm.Cond} (hgood : ∀ w ∈ Ts, GoodIn Ts (w :: Ts)) {k : Con} {T : TB} {BT : List (Nat × Nat)} {CT : CTB} {f : Nat} (hy : plainName k.1.1.cls = true) (hT : TOK k.1.1.cls cl Ts k.1.2.1 T) (hBT : BOK k.1.1.cls Ts BT) (hCT : CTOK l k.1.1.cls cl Ts CT) (h : chk T BT CT f k = true) : Vld l cl Ts k := by
  unfold chk at h
  simp only [Bool.and_eq_true, decide_eq_true_eq] at h
  obtain ⟨h1, h2, h3, h4⟩ := h
  intro D cA g gv ad es vs sz hG hvs hes hlen
  refine Met.ofW (cc := k.1.2.1) (maxL := k.1.2.2.1) (ret := k.1.2.2.2) hy rfl ?_
  intro p e s m args below meth c s₁ B hml hv
  obtain ⟨rfl, hsz, hP, hK, hD, hN⟩ := hv
  subst hsz
  have hts0 := atoms_spec (ws := .code k.1.1 k.1.2.1 k.1.2.2.1 k.1.2.2.2 :: Ts) B.pre
  have hts : ∀ w ∈ Ts, w.before vs.toArray s = true := fun w hw => hts0 w (List.mem_cons_of_mem _ hw)
  have hown : s.vm.findClass k.1.1.cls = some m.cls := findClass_of_methodNamed B.named
  have hlg : GS k.2.2.1.2.1 g := hG
  have hgl : g.length = k.2.2.1.2.1.length := (zf2_len hG).symm
  have hl := lv_entry vs (n := k.1.2.2.1) (by rw [sl_len hvs h1]; exact h2)
  rw [lg_entry_eq]
  generalize (lg_sl vs ++ List.replicate (k.1.2.2.1 - (lg_sl vs).length) Slot.unset).toArray = ls at hl ⊢
  rw [← hgl] at h4
  have hW := run_ok (l := l) (e := e) (R := rmC k) (below := below) (D := D) (cA := cA) (es0 := es) (g0 := g) (gv := gv) (ad := ad) B.exec B.bytes (hml.trans h3.symm) hown hts hK hN hgood hT hBT hCT B.returns B.notSynchronized f _ h4
  exact hW g (lv_args 0 vs) [] es ls s.heap [] gxt_rf hG (by rw [h3]; exact hl) (lva_ok hvs h1) trivial ⟨zf2_mapL hes, fun _ _ _ _ => rfl, hP, hD.self (sz := s.heap.size), va_S.rf, hlen⟩
end
section
/-! THE CLAIM OUT OF ONE WALK OF THE LAW'S BODY. Your part is whole_start (and what it stands on); all else here is the same for every law, but numbers. -/
def R_law : String := "RookHustingLaw"
def lw_P (b : Addr) (xs : List Int32) (args : Array Value) (s : State) : Prop := args = #[.ref b] ∧ s.IntsAt b xs ∧ xs.length ≤ 6 ∧ (Jvm.Cond.and given_1 narrow_1).before args s = true
def lw_Q (_ : Array Value) (s : State) (o : Outcome) (t : State) : Prop := o = .returned (some (.int 1)) ∧ Framed s o t [] 600000 7302250
def lw_Z (below : List Frame) (a : Array Value) (s : State) : State → Prop := fun t => ∃ o, t.status = .running ∧ Ended t below o ∧ lw_Q a s o t
/-- the law's own end, with 1 on the stack, nothing written that was there before, its room as the claim has it -/
theorem lw_ret {p : Program} {l : Launch} {e : Env} {s : State} {m : MethodId} {below : List Frame} {meth : Method} {c : Code} {b : Nat} (hx : p.tables.exec = Jvm.exec) (hb : c.code = code) (hr : meth.sig.returnType = ret) (hlocks : meth.locks = false) {pc : Nat} {H : Heap} {ls : Array Slot} (hdg : decode code pc = .ok (.ireturn, 1)) : W p l e room_1 s m #[Value.ref b] below meth c H [] 600000 7302250 (lw_Z below #[Value.ref b] s) (F0 m pc ls [.int 1]) := by
  intro T hT X
  obtain ⟨fs, hret, hrun, hended, hW, hframe⟩ := X.leave (v := some (.int 1)) (hlocks := hlocks) (fun h => by rw [hr] at h; cases h)
  have hmeth' : T.vm.method? m = some meth := X.method'
  refine ⟨T.setFrames fs, ?_, .returned (some (.int 1)), hrun, hended, rfl, ⟨_, rfl⟩, hW, hframe⟩
  jvm_step X.here [X.here.top, hx, hb, hdg, hmeth', hr, ret, narrow_b1]
  (try refine ⟨rfl, ?_⟩); (try refine ⟨rfl, ?_⟩)
  first | (intro acts; rw [hret _ acts rfl rfl rfl]) | rw [hret _ _ rfl rfl rfl]
  exact Steps.refl _
/-- what holds at the law's entry: the machine, the code, the tables' words (any of lw_tbl by 'hts w (by decide +kernel)'), the script of L ints xs at the cell b, what the Statement gives of the start (any of its parts by flat_of_before) -/
def lw_At (p : Program) (s : State) (m : MethodId) (meth : Method) (c : Code) (b L : Nat) (xs : Nat → Int32) : Prop :=
  p.tables.exec = Jvm.exec ∧ c.code = code ∧ meth.sig.returnType = ret ∧ c.maxLocals = 4 ∧ s.vm.findClass R_law = some m.cls ∧ (∀ w ∈ lw_tbl, w.before #[Value.ref b] s = true) ∧ va_X b L xs s s.heap ∧ b < s.heap.size ∧ meth.locks = false ∧ (Jvm.Cond.and given_1 narrow_1).before #[Value.ref b] s = true
end
section
/-! ===== the law's own run ===== -/
/-- the script: an element by its index, the length -/
def stpE (XS : List (AV × AV)) (LN : AV) (ins : ClassFile.Instr) (len : Nat) (a : AS) : Option (List AS) := match ins with
  | .aload_n k => if len = 1 then (match fnd a.2.1 k with
    | some v => if v.1 = 11 then some (psh a 1 (a.2.2.2.1, v)) else none
    | none => none) else none
  | .arraylength => if len = 1 then (match a.2.2.1 with
    | x :: st => if x = (11, 0, 0) then some [(a.1 + 1, a.2.1, LN :: st, a.2.2.2.1, a.2.2.2.2)] else none
    | _ => none) else none
  | .iaload => if len = 1 then (match a.2.2.1 with
    | i :: x :: st => if x = (11, 0, 0) then (match XS.lookup i with
      | some v => some [(a.1 + 1, a.2.1, v :: st, a.2.2.2.1, a.2.2.2.2)]
      | none => none) else none
    | _ => none) else none
  | _ => none
def finL (ins : ClassFile.Instr) (len : Nat) (a : AS) : Bool := match ins with
  | .ireturn => match a.2.2.1 with
    | [v] => decide (len = 1) && (match ivI a.2.2.2.1 v with
      | some q => decide (q.1 = 1 ∧ q.2 = 1)
      | none => false)
    | _ => false
  | _ => false
def runL (T : TB) (CT : CTB) (R : Nat × Nat) (XS : List (AV × AV)) (LN : AV) : Nat → AS → Bool
  | 0, _ => false
  | f + 1, a => match look T.1 a.1 with
    | none => false
    | some q => finL q.1 q.2 a || (match stpE XS LN q.1 q.2 a with
      | some L => L.all (runL T CT R XS LN f)
      | none => match stp T [] CT R q.1 q.2 a with
        | some L => L.all (runL T CT R XS LN f)
        | none => false)
theorem lkp_mem {β : Type} : ∀ {l : List (AV × β)} {i : AV} {b : β}, l.lookup i = some b → (i, b) ∈ l
  | [], _, _, h => by simp at h
  | (k, c) :: r, i, b, h => by
    rw [List.lookup_cons] at h
    split at h
    · rename_i hk
      cases h
      have : i = k := by simpa using hk
      subst this
      exact List.mem_cons_self
    · exact List.mem_cons_of_mem _ (lkp_mem h)
section LAWRUN
variable {p : Program} {l : Launch} {e : Env} {s : State} {m : MethodId} {below : List Frame} {meth : Method} {c : Code} {cs0 ss0 : Nat} {b : Nat} {Ts : List Jvm.Cond} {D : va_G} {cl : List vw_C} {V : EV} {cA : Nat → ClassId} {es0 : List va_E} {g0 : List Int} {L : Nat} {xs : Nat → Int32}
theorem finL_ok (hx : p.tables.exec = Jvm.exec) (hb : c.code = code) (hr : meth.sig.returnType = ret) (hlocks : meth.locks = false) (hcs : cs0 ≤ 600000) (hss : ss0 ≤ 7302250) {nL : Nat} {a : AS} {ins : ClassFile.Instr} {len : Nat} (hd : decode code a.1 = .ok (ins, len)) (h : finL ins len a = true) : WA (WW p l e room_1 s m #[Value.ref b] below meth c cs0 ss0 (lw_Z below #[Value.ref b] s)) m nL D cl (fun q : Nat => s.heap.size ≤ q) s.heap V cA es0 g0 a := by
  intro g lv sv es ls H locs h0 hG hlv hl hs hH
  unfold finL at h
  split at h
  · split at h
    · rename_i v hst
      simp only [Bool.and_eq_true, decide_eq_true_eq] at h
      obtain ⟨rfl, h1⟩ := h
      rw [hst] at hs
      obtain ⟨w, sv1, rfl, g1, hs1⟩ := zf2_cons hs
      cases sv1 with
      | cons _ _ => exact hs1.elim
      | nil =>
        split at h1
        · rename_i q hq
          have h1 := of_decide_eq_true h1
          obtain ⟨x, rfl, e1⟩ := ivI_ok hG g1 hq
          have : x = 1 := Int32.toInt_inj.mp ((ae_int0 e1 h1.1 h1.2).trans (by decide))
          subst this
          refine va_forget (fun q hq => hH.2.2.2.2.1.2.2 q hq) ?_
          refine W.widen (k := 600000) (n := 7302250) hcs hss ?_
          exact lw_ret hx hb hr hlocks hd
        · cases h1
    · cases h
  · cases h
theorem stpE_ok (hx : p.tables.exec = Jvm.exec) (hb : c.code = code) (hX : va_X b L xs s s.heap) (hbl : b < s.heap.size) (hV : V.1[0]? = some (.ref b)) {XS : List (AV × AV)} {LN : AV} (hLN : ∀ g, gxt g0 g → gam g V LN (.int L.toInt32)) (hXS : ∀ q ∈ XS, ∀ (g : List Int) (v : Value), gxt g0 g → gam g V q.1 v → ∃ X : Int32, v = .int X ∧ vp_in X L ∧ gam g V q.2 (.int (xs X.toNatClampNeg))) {nL : Nat} {a : AS} {ins : ClassFile.Instr} {len : Nat} {Ls : List AS} (hd : decode code a.1 = .ok (ins, len)) (h : stpE XS LN ins len a = some Ls) (hL : ∀ x ∈ Ls, WA (WW p l e room_1 s m #[Value.ref b] below meth c cs0 ss0 (lw_Z below #[Value.ref b] s)) m nL D cl (fun q : Nat => s.heap.size ≤ q) s.heap V cA es0 g0 x) : WA (WW p l e room_1 s m #[Value.ref b] below meth c cs0 ss0 (lw_Z below #[Value.ref b] s)) m nL D cl (fun q : Nat => s.heap.size ≤ q) s.heap V cA es0 g0 a := by
  intro g lv sv es ls H locs h0 hG hlv hl hs hH
  have hbA : ¬ (fun q : Nat => s.heap.size ≤ q) b := Nat.not_le.mpr hbl
  have ext : ∀ {v : Value}, gam g V (11, 0, 0) v → v = .ref b := fun {v} hv => by
    obtain ⟨r, e1, e2⟩ := hv
    have e1 : V.1[0]? = some (.ref r) := e1
    rw [hV] at e1
    cases e1
    exact e2
  unfold stpE at h
  split at h
  · split at h
    · rename_i k hc
      subst hc
      split at h
      · rename_i v hv
        split at h
        · rename_i ht
          cases h
          obtain ⟨j, w, h1, h2, h3⟩ := fnd_ok hl hv
          have h2' := h2
          obtain ⟨tv, v1, v2⟩ := v
          simp only at ht
          subst ht
          obtain ⟨r, e1, rfl⟩ := h2
          exact lv_aload_n hx hb hd rfl (lv_at hlv j h1) (WA_psh hL h0 hlv hl hs hH gxt_rf hG h2')
        · cases h
      · cases h
    · cases h
  · split at h
    · rename_i hc
      subst hc
      split at h
      · rename_i x st hst
        split at h
        · rename_i hxe
          cases h
          rw [hst, hxe] at hs
          obtain ⟨w, sv1, rfl, g1, hs1⟩ := zf2_cons hs
          rw [ext g1]
          exact va_slen hx hb hX hbl hbA hH.2.2.2.2.1 hd (hL _ (List.mem_singleton.mpr rfl) g lv _ es ls H locs h0 hG hlv hl ⟨hLN g h0, hs1⟩ hH)
        · cases h
      · cases h
    · cases h
  · split at h
    · rename_i hc
      subst hc
      split at h
      · rename_i i x st hst
        split at h
        · rename_i hxe
          split at h
          · rename_i v hv
            cases h
            rw [hst, hxe] at hs
            obtain ⟨w, sv1, rfl, g1, hs1⟩ := zf2_cons hs
            obtain ⟨w2, sv2, rfl, g2, hs2⟩ := zf2_cons hs1
            rw [ext g2]
            obtain ⟨X, rfl, e1, e2⟩ := hXS _ (lkp_mem hv) g w h0 g1
            exact va_sld hx hb hX hbl hbA hH.2.2.2.2.1 e1 hd (hL _ (List.mem_singleton.mpr rfl) g lv _ es ls H locs h0 hG hlv hl ⟨e2, hs2⟩ hH)
          · cases h
        · cases h
      · cases h
    · cases h
  · cases h
theorem runL_ok (hx : p.tables.exec = Jvm.exec) (hb : c.code = code) (hr : meth.sig.returnType = ret) (hlocks : meth.locks = false) {T : TB} (hml : c.maxLocals = T.2.1) (hown : s.vm.findClass R_law = some m.cls) (hts : ∀ w ∈ Ts, w.before #[Value.ref b] s = true) (hK : va_K D cl (tysA cA) s) (hN : NOK s) (hgood : ∀ w ∈ Ts, GoodIn Ts (w :: Ts)) (hT : TOK R_law cl Ts code T) {CT : CTB} (hCT : CTOK l R_law cl Ts CT) (hcs : cs0 ≤ 600000) (hss : ss0 ≤ 7302250) (hX : va_X b L xs s s.heap) (hbl : b < s.heap.size) (hV : V.1[0]? = some (.ref b)) {XS : List (AV × AV)} {LN : AV} (hLN : ∀ g, gxt g0 g → gam g V LN (.int L.toInt32)) (hXS : ∀ q ∈ XS, ∀ (g : List Int) (v : Value), gxt g0 g → gam g V q.1 v → ∃ X : Int32, v = .int X ∧ vp_in X L ∧ gam g V q.2 (.int (xs X.toNatClampNeg))) : ∀ (f : Nat) (a : AS), runL T CT (room_1.frames, room_1.locals) XS LN f a = true →
    WA (WW p l e room_1 s m #[Value.ref b] below meth c cs0 ss0 (lw_Z below #[Value.ref b] s)) m T.2.1 D cl (fun q : Nat => s.heap.size ≤ q) s.heap V cA es0 g0 a := by
  intro f
  induction f with
  | zero => intro a h; simp [runL] at h
  | succ f ih =>
    intro a h
    unfold runL at h
    split at h
    · cases h
    · rename_i q hq
      have hd : decode code a.1 = .ok (q.1, q.2) := hT.1 (a.1, q) (look_mem hq)
      simp only [Bool.or_eq_true] at h
      rcases h with h | h
      · exact finL_ok hx hb hr hlocks hcs hss hd h
      · split at h
        · rename_i L' hL
          exact stpE_ok hx hb hX hbl hV hLN hXS hd hL (fun b' hb' => ih b' (List.all_eq_true.mp h b' hb'))
        · split at h
          · rename_i L' hL
            have hall := fun b' hb' => ih b' (List.all_eq_true.mp h b' hb')
            unfold stp at hL
            split at hL
            · rename_i L'' h1
              cases hL
              exact stpA_ok hx hb hown hts hT hd h1 hall
            · split at hL
              · rename_i L'' h1
                cases hL
                exact stpH_ok hx hb hown hts hK hT hd h1 hall
              · exact stpC_ok hx hb hml hown hts hK hN (fun q hq => hq) hcs hss hgood (fun q hq => by cases hq) hCT hd hL hall
          · cases h
end LAWRUN
end
