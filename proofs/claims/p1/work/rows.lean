section
-- ===== PART A: goes FIRST, ahead of the names: the tables' words, and 'selects' of the private methods out of them =====
/-- a private method of a class that the tables say can be made, by its rows of tables_1 -/
def lw_okq (q : MethodName × Nat) : Prop := (q.1.cls ≠ "java/lang/invoke/MethodHandle" ∧ q.1.cls ≠ "java/lang/invoke/VarHandle") ∧ Cond.instantiable q.1.cls q.2 ∈ tables_1 ∧ Cond.privateMethod q.1 ∈ tables_1 ∧ Cond.instanceMethod q.1 ∈ tables_1
theorem lw_p0 : lw_okq (⟨"RookHusting$Reader", "readHead", "()V"⟩, 4) := ⟨⟨by decide +kernel, by decide +kernel⟩, List.mem_of_getElem? (i := 60) (by decide +kernel), List.mem_of_getElem? (i := 482) (by decide +kernel), List.mem_of_getElem? (i := 483) (by decide +kernel)⟩
theorem lw_p1 : lw_okq (⟨"RookHusting$Reader", "takeWord", "(Ljava/lang/String;)V"⟩, 4) := ⟨⟨by decide +kernel, by decide +kernel⟩, List.mem_of_getElem? (i := 60) (by decide +kernel), List.mem_of_getElem? (i := 487) (by decide +kernel), List.mem_of_getElem? (i := 488) (by decide +kernel)⟩
theorem lw_p2 : lw_okq (⟨"RookHusting$Reader", "blame", "(I)V"⟩, 4) := ⟨⟨by decide +kernel, by decide +kernel⟩, List.mem_of_getElem? (i := 60) (by decide +kernel), List.mem_of_getElem? (i := 543) (by decide +kernel), List.mem_of_getElem? (i := 544) (by decide +kernel)⟩
theorem lw_p3 : lw_okq (⟨"RookHusting$Reader", "takeNamed", "(Ljava/lang/String;II)I"⟩, 4) := ⟨⟨by decide +kernel, by decide +kernel⟩, List.mem_of_getElem? (i := 60) (by decide +kernel), List.mem_of_getElem? (i := 549) (by decide +kernel), List.mem_of_getElem? (i := 550) (by decide +kernel)⟩
theorem lw_p4 : lw_okq (⟨"RookHusting$Reader", "takeNumber", "(III)I"⟩, 4) := ⟨⟨by decide +kernel, by decide +kernel⟩, List.mem_of_getElem? (i := 60) (by decide +kernel), List.mem_of_getElem? (i := 553) (by decide +kernel), List.mem_of_getElem? (i := 554) (by decide +kernel)⟩
theorem lw_p5 : lw_okq (⟨"RookHusting$Reader", "readField", "()V"⟩, 4) := ⟨⟨by decide +kernel, by decide +kernel⟩, List.mem_of_getElem? (i := 60) (by decide +kernel), List.mem_of_getElem? (i := 563) (by decide +kernel), List.mem_of_getElem? (i := 564) (by decide +kernel)⟩
theorem lw_p6 : lw_okq (⟨"RookHusting$Reader", "readHedge", "()V"⟩, 4) := ⟨⟨by decide +kernel, by decide +kernel⟩, List.mem_of_getElem? (i := 60) (by decide +kernel), List.mem_of_getElem? (i := 574) (by decide +kernel), List.mem_of_getElem? (i := 575) (by decide +kernel)⟩
theorem lw_p7 : lw_okq (⟨"RookHusting$Reader", "readMan", "()V"⟩, 4) := ⟨⟨by decide +kernel, by decide +kernel⟩, List.mem_of_getElem? (i := 60) (by decide +kernel), List.mem_of_getElem? (i := 583) (by decide +kernel), List.mem_of_getElem? (i := 584) (by decide +kernel)⟩
theorem lw_p8 : lw_okq (⟨"RookHusting$Reader", "readVoter", "()V"⟩, 4) := ⟨⟨by decide +kernel, by decide +kernel⟩, List.mem_of_getElem? (i := 60) (by decide +kernel), List.mem_of_getElem? (i := 594) (by decide +kernel), List.mem_of_getElem? (i := 595) (by decide +kernel)⟩
theorem lw_p9 : lw_okq (⟨"RookHusting$Reader", "takeSign", "()V"⟩, 4) := ⟨⟨by decide +kernel, by decide +kernel⟩, List.mem_of_getElem? (i := 60) (by decide +kernel), List.mem_of_getElem? (i := 607) (by decide +kernel), List.mem_of_getElem? (i := 608) (by decide +kernel)⟩
theorem lw_p10 : lw_okq (⟨"RookHusting", "forget", "()V"⟩, 16) := ⟨⟨by decide +kernel, by decide +kernel⟩, List.mem_of_getElem? (i := 22) (by decide +kernel), List.mem_of_getElem? (i := 618) (by decide +kernel), List.mem_of_getElem? (i := 619) (by decide +kernel)⟩
theorem lw_p11 : lw_okq (⟨"RookHusting", "isField", "(I)Z"⟩, 16) := ⟨⟨by decide +kernel, by decide +kernel⟩, List.mem_of_getElem? (i := 22) (by decide +kernel), List.mem_of_getElem? (i := 630) (by decide +kernel), List.mem_of_getElem? (i := 631) (by decide +kernel)⟩
theorem lw_p12 : lw_okq (⟨"RookHusting", "isMan", "(I)Z"⟩, 16) := ⟨⟨by decide +kernel, by decide +kernel⟩, List.mem_of_getElem? (i := 22) (by decide +kernel), List.mem_of_getElem? (i := 645) (by decide +kernel), List.mem_of_getElem? (i := 646) (by decide +kernel)⟩
theorem lw_p13 : lw_okq (⟨"RookHusting", "isVoter", "(I)Z"⟩, 16) := ⟨⟨by decide +kernel, by decide +kernel⟩, List.mem_of_getElem? (i := 22) (by decide +kernel), List.mem_of_getElem? (i := 653) (by decide +kernel), List.mem_of_getElem? (i := 654) (by decide +kernel)⟩
theorem lw_p14 : lw_okq (⟨"RookHusting", "isSet", "(I)Z"⟩, 16) := ⟨⟨by decide +kernel, by decide +kernel⟩, List.mem_of_getElem? (i := 22) (by decide +kernel), List.mem_of_getElem? (i := 665) (by decide +kernel), List.mem_of_getElem? (i := 666) (by decide +kernel)⟩
theorem lw_p15 : lw_okq (⟨"RookHusting", "isTold", "()Z"⟩, 16) := ⟨⟨by decide +kernel, by decide +kernel⟩, List.mem_of_getElem? (i := 22) (by decide +kernel), List.mem_of_getElem? (i := 669) (by decide +kernel), List.mem_of_getElem? (i := 670) (by decide +kernel)⟩
def lw_privs_1 : List (MethodName × Nat) := [(⟨"RookHusting$Reader", "readHead", "()V"⟩, 4), (⟨"RookHusting$Reader", "takeWord", "(Ljava/lang/String;)V"⟩, 4), (⟨"RookHusting$Reader", "blame", "(I)V"⟩, 4), (⟨"RookHusting$Reader", "takeNamed", "(Ljava/lang/String;II)I"⟩, 4), (⟨"RookHusting$Reader", "takeNumber", "(III)I"⟩, 4), (⟨"RookHusting$Reader", "readField", "()V"⟩, 4), (⟨"RookHusting$Reader", "readHedge", "()V"⟩, 4), (⟨"RookHusting$Reader", "readMan", "()V"⟩, 4), (⟨"RookHusting$Reader", "readVoter", "()V"⟩, 4), (⟨"RookHusting$Reader", "takeSign", "()V"⟩, 4), (⟨"RookHusting", "forget", "()V"⟩, 16), (⟨"RookHusting", "isField", "(I)Z"⟩, 16), (⟨"RookHusting", "isMan", "(I)Z"⟩, 16), (⟨"RookHusting", "isVoter", "(I)Z"⟩, 16), (⟨"RookHusting", "isSet", "(I)Z"⟩, 16), (⟨"RookHusting", "isTold", "()Z"⟩, 16)]
theorem lw_r1 : ∀ q ∈ lw_privs_1, lw_okq q := List.forall_mem_cons.mpr ⟨lw_p0, List.forall_mem_cons.mpr ⟨lw_p1, List.forall_mem_cons.mpr ⟨lw_p2, List.forall_mem_cons.mpr ⟨lw_p3, List.forall_mem_cons.mpr ⟨lw_p4, List.forall_mem_cons.mpr ⟨lw_p5, List.forall_mem_cons.mpr ⟨lw_p6, List.forall_mem_cons.mpr ⟨lw_p7, List.forall_mem_cons.mpr ⟨lw_p8, List.forall_mem_cons.mpr ⟨lw_p9, List.forall_mem_cons.mpr ⟨lw_p10, List.forall_mem_cons.mpr ⟨lw_p11, List.forall_mem_cons.mpr ⟨lw_p12, List.forall_mem_cons.mpr ⟨lw_p13, List.forall_mem_cons.mpr ⟨lw_p14, List.forall_mem_cons.mpr ⟨lw_p15, fun _ h => absurd h List.not_mem_nil⟩⟩⟩⟩⟩⟩⟩⟩⟩⟩⟩⟩⟩⟩⟩⟩
theorem lw_p16 : lw_okq (⟨"RookHusting$Election", "lastOfFewest", "([III)I"⟩, 2) := ⟨⟨by decide +kernel, by decide +kernel⟩, List.mem_of_getElem? (i := 239) (by decide +kernel), List.mem_of_getElem? (i := 695) (by decide +kernel), List.mem_of_getElem? (i := 696) (by decide +kernel)⟩
theorem lw_p17 : lw_okq (⟨"RookHusting$Election", "firstOfMost", "([IIII)I"⟩, 2) := ⟨⟨by decide +kernel, by decide +kernel⟩, List.mem_of_getElem? (i := 239) (by decide +kernel), List.mem_of_getElem? (i := 702) (by decide +kernel), List.mem_of_getElem? (i := 703) (by decide +kernel)⟩
theorem lw_p18 : lw_okq (⟨"RookHusting$Election", "allMen", "()I"⟩, 2) := ⟨⟨by decide +kernel, by decide +kernel⟩, List.mem_of_getElem? (i := 239) (by decide +kernel), List.mem_of_getElem? (i := 714) (by decide +kernel), List.mem_of_getElem? (i := 715) (by decide +kernel)⟩
theorem lw_p19 : lw_okq (⟨"RookHusting", "settle", "()V"⟩, 16) := ⟨⟨by decide +kernel, by decide +kernel⟩, List.mem_of_getElem? (i := 22) (by decide +kernel), List.mem_of_getElem? (i := 723) (by decide +kernel), List.mem_of_getElem? (i := 724) (by decide +kernel)⟩
theorem lw_p20 : lw_okq (⟨"RookHusting$Harvest", "frighten", "(LRookHusting$Hundred;LRookHusting$Scene;I)V"⟩, 9) := ⟨⟨by decide +kernel, by decide +kernel⟩, List.mem_of_getElem? (i := 281) (by decide +kernel), List.mem_of_getElem? (i := 748) (by decide +kernel), List.mem_of_getElem? (i := 749) (by decide +kernel)⟩
theorem lw_p21 : lw_okq (⟨"RookHusting$Harvest", "beginNextDay", "(I)V"⟩, 9) := ⟨⟨by decide +kernel, by decide +kernel⟩, List.mem_of_getElem? (i := 281) (by decide +kernel), List.mem_of_getElem? (i := 756) (by decide +kernel), List.mem_of_getElem? (i := 757) (by decide +kernel)⟩
theorem lw_p22 : lw_okq (⟨"RookHusting$Harvest", "eatAndFly", "(LRookHusting$Scene;I)V"⟩, 9) := ⟨⟨by decide +kernel, by decide +kernel⟩, List.mem_of_getElem? (i := 281) (by decide +kernel), List.mem_of_getElem? (i := 760) (by decide +kernel), List.mem_of_getElem? (i := 761) (by decide +kernel)⟩
theorem lw_p23 : lw_okq (⟨"RookHusting$Harvest", "leastFeared", "(II)I"⟩, 9) := ⟨⟨by decide +kernel, by decide +kernel⟩, List.mem_of_getElem? (i := 281) (by decide +kernel), List.mem_of_getElem? (i := 765) (by decide +kernel), List.mem_of_getElem? (i := 766) (by decide +kernel)⟩
theorem lw_p24 : lw_okq (⟨"RookHusting$Election", "isWantedMore", "(III)Z"⟩, 2) := ⟨⟨by decide +kernel, by decide +kernel⟩, List.mem_of_getElem? (i := 239) (by decide +kernel), List.mem_of_getElem? (i := 782) (by decide +kernel), List.mem_of_getElem? (i := 783) (by decide +kernel)⟩
theorem lw_p25 : lw_okq (⟨"RookHusting$Election", "isOver", "(II)Z"⟩, 2) := ⟨⟨by decide +kernel, by decide +kernel⟩, List.mem_of_getElem? (i := 239) (by decide +kernel), List.mem_of_getElem? (i := 794) (by decide +kernel), List.mem_of_getElem? (i := 795) (by decide +kernel)⟩
theorem lw_p26 : lw_okq (⟨"RookHusting$Election", "isRing", "(III)Z"⟩, 2) := ⟨⟨by decide +kernel, by decide +kernel⟩, List.mem_of_getElem? (i := 239) (by decide +kernel), List.mem_of_getElem? (i := 807) (by decide +kernel), List.mem_of_getElem? (i := 808) (by decide +kernel)⟩
theorem lw_p27 : lw_okq (⟨"RookHusting$Election", "hatsOf", "(I)I"⟩, 2) := ⟨⟨by decide +kernel, by decide +kernel⟩, List.mem_of_getElem? (i := 239) (by decide +kernel), List.mem_of_getElem? (i := 819) (by decide +kernel), List.mem_of_getElem? (i := 820) (by decide +kernel)⟩
theorem lw_p28 : lw_okq (⟨"RookHusting$Election", "winnerOfAll", "(I)I"⟩, 2) := ⟨⟨by decide +kernel, by decide +kernel⟩, List.mem_of_getElem? (i := 239) (by decide +kernel), List.mem_of_getElem? (i := 823) (by decide +kernel), List.mem_of_getElem? (i := 824) (by decide +kernel)⟩
theorem lw_p29 : lw_okq (⟨"RookHusting", "learnPlain", "()V"⟩, 16) := ⟨⟨by decide +kernel, by decide +kernel⟩, List.mem_of_getElem? (i := 22) (by decide +kernel), List.mem_of_getElem? (i := 831) (by decide +kernel), List.mem_of_getElem? (i := 832) (by decide +kernel)⟩
theorem lw_p30 : lw_okq (⟨"RookHusting$Election", "gainsBehind", "(IIII)Z"⟩, 2) := ⟨⟨by decide +kernel, by decide +kernel⟩, List.mem_of_getElem? (i := 239) (by decide +kernel), List.mem_of_getElem? (i := 840) (by decide +kernel), List.mem_of_getElem? (i := 841) (by decide +kernel)⟩
theorem lw_p31 : lw_okq (⟨"RookHusting", "isDay", "(I)Z"⟩, 16) := ⟨⟨by decide +kernel, by decide +kernel⟩, List.mem_of_getElem? (i := 22) (by decide +kernel), List.mem_of_getElem? (i := 893) (by decide +kernel), List.mem_of_getElem? (i := 894) (by decide +kernel)⟩
def lw_privs_2 : List (MethodName × Nat) := [(⟨"RookHusting$Election", "lastOfFewest", "([III)I"⟩, 2), (⟨"RookHusting$Election", "firstOfMost", "([IIII)I"⟩, 2), (⟨"RookHusting$Election", "allMen", "()I"⟩, 2), (⟨"RookHusting", "settle", "()V"⟩, 16), (⟨"RookHusting$Harvest", "frighten", "(LRookHusting$Hundred;LRookHusting$Scene;I)V"⟩, 9), (⟨"RookHusting$Harvest", "beginNextDay", "(I)V"⟩, 9), (⟨"RookHusting$Harvest", "eatAndFly", "(LRookHusting$Scene;I)V"⟩, 9), (⟨"RookHusting$Harvest", "leastFeared", "(II)I"⟩, 9), (⟨"RookHusting$Election", "isWantedMore", "(III)Z"⟩, 2), (⟨"RookHusting$Election", "isOver", "(II)Z"⟩, 2), (⟨"RookHusting$Election", "isRing", "(III)Z"⟩, 2), (⟨"RookHusting$Election", "hatsOf", "(I)I"⟩, 2), (⟨"RookHusting$Election", "winnerOfAll", "(I)I"⟩, 2), (⟨"RookHusting", "learnPlain", "()V"⟩, 16), (⟨"RookHusting$Election", "gainsBehind", "(IIII)Z"⟩, 2), (⟨"RookHusting", "isDay", "(I)Z"⟩, 16)]
theorem lw_r2 : ∀ q ∈ lw_privs_2, lw_okq q := List.forall_mem_cons.mpr ⟨lw_p16, List.forall_mem_cons.mpr ⟨lw_p17, List.forall_mem_cons.mpr ⟨lw_p18, List.forall_mem_cons.mpr ⟨lw_p19, List.forall_mem_cons.mpr ⟨lw_p20, List.forall_mem_cons.mpr ⟨lw_p21, List.forall_mem_cons.mpr ⟨lw_p22, List.forall_mem_cons.mpr ⟨lw_p23, List.forall_mem_cons.mpr ⟨lw_p24, List.forall_mem_cons.mpr ⟨lw_p25, List.forall_mem_cons.mpr ⟨lw_p26, List.forall_mem_cons.mpr ⟨lw_p27, List.forall_mem_cons.mpr ⟨lw_p28, List.forall_mem_cons.mpr ⟨lw_p29, List.forall_mem_cons.mpr ⟨lw_p30, List.forall_mem_cons.mpr ⟨lw_p31, fun _ h => absurd h List.not_mem_nil⟩⟩⟩⟩⟩⟩⟩⟩⟩⟩⟩⟩⟩⟩⟩⟩
theorem lw_p32 : lw_okq (⟨"RookHusting", "cellNow", "([III)I"⟩, 16) := ⟨⟨by decide +kernel, by decide +kernel⟩, List.mem_of_getElem? (i := 22) (by decide +kernel), List.mem_of_getElem? (i := 897) (by decide +kernel), List.mem_of_getElem? (i := 898) (by decide +kernel)⟩
theorem lw_p33 : lw_okq (⟨"RookHusting", "isEatingDay", "(I)Z"⟩, 16) := ⟨⟨by decide +kernel, by decide +kernel⟩, List.mem_of_getElem? (i := 22) (by decide +kernel), List.mem_of_getElem? (i := 913) (by decide +kernel), List.mem_of_getElem? (i := 914) (by decide +kernel)⟩
theorem lw_p34 : lw_okq (⟨"RookHusting", "sumNow", "([II)I"⟩, 16) := ⟨⟨by decide +kernel, by decide +kernel⟩, List.mem_of_getElem? (i := 22) (by decide +kernel), List.mem_of_getElem? (i := 925) (by decide +kernel), List.mem_of_getElem? (i := 926) (by decide +kernel)⟩
theorem lw_p35 : lw_okq (⟨"RookHusting", "mostNow", "([II)I"⟩, 16) := ⟨⟨by decide +kernel, by decide +kernel⟩, List.mem_of_getElem? (i := 22) (by decide +kernel), List.mem_of_getElem? (i := 937) (by decide +kernel), List.mem_of_getElem? (i := 938) (by decide +kernel)⟩
theorem lw_p36 : lw_okq (⟨"RookHusting", "firstZeroNow", "([II)I"⟩, 16) := ⟨⟨by decide +kernel, by decide +kernel⟩, List.mem_of_getElem? (i := 22) (by decide +kernel), List.mem_of_getElem? (i := 953) (by decide +kernel), List.mem_of_getElem? (i := 954) (by decide +kernel)⟩
theorem lw_p37 : lw_okq (⟨"RookHusting$PutSearch", "fillFrom", "(II)V"⟩, 8) := ⟨⟨by decide +kernel, by decide +kernel⟩, List.mem_of_getElem? (i := 322) (by decide +kernel), List.mem_of_getElem? (i := 1026) (by decide +kernel), List.mem_of_getElem? (i := 1027) (by decide +kernel)⟩
theorem lw_p38 : lw_okq (⟨"RookHusting$PutSearch", "weighRow", "(I)V"⟩, 8) := ⟨⟨by decide +kernel, by decide +kernel⟩, List.mem_of_getElem? (i := 322) (by decide +kernel), List.mem_of_getElem? (i := 1031) (by decide +kernel), List.mem_of_getElem? (i := 1032) (by decide +kernel)⟩
theorem lw_p39 : lw_okq (⟨"RookHusting", "leftByLaw", "(I)I"⟩, 16) := ⟨⟨by decide +kernel, by decide +kernel⟩, List.mem_of_getElem? (i := 22) (by decide +kernel), List.mem_of_getElem? (i := 1056) (by decide +kernel), List.mem_of_getElem? (i := 1057) (by decide +kernel)⟩
theorem lw_p40 : lw_okq (⟨"RookHusting", "leftOnTrial", "()I"⟩, 16) := ⟨⟨by decide +kernel, by decide +kernel⟩, List.mem_of_getElem? (i := 22) (by decide +kernel), List.mem_of_getElem? (i := 1060) (by decide +kernel), List.mem_of_getElem? (i := 1061) (by decide +kernel)⟩
theorem lw_p41 : lw_okq (⟨"RookHusting", "wrongSeen", "(II)I"⟩, 16) := ⟨⟨by decide +kernel, by decide +kernel⟩, List.mem_of_getElem? (i := 22) (by decide +kernel), List.mem_of_getElem? (i := 1081) (by decide +kernel), List.mem_of_getElem? (i := 1082) (by decide +kernel)⟩
theorem lw_p42 : lw_okq (⟨"RookHusting", "guessAll", "(II)V"⟩, 16) := ⟨⟨by decide +kernel, by decide +kernel⟩, List.mem_of_getElem? (i := 22) (by decide +kernel), List.mem_of_getElem? (i := 1099) (by decide +kernel), List.mem_of_getElem? (i := 1100) (by decide +kernel)⟩
theorem lw_p43 : lw_okq (⟨"RookHusting", "isAsSeen", "(I)Z"⟩, 16) := ⟨⟨by decide +kernel, by decide +kernel⟩, List.mem_of_getElem? (i := 22) (by decide +kernel), List.mem_of_getElem? (i := 1104) (by decide +kernel), List.mem_of_getElem? (i := 1105) (by decide +kernel)⟩
theorem lw_p44 : lw_okq (⟨"RookHusting$Guesses", "mostAlike", "(I)I"⟩, 4) := ⟨⟨by decide +kernel, by decide +kernel⟩, List.mem_of_getElem? (i := 358) (by decide +kernel), List.mem_of_getElem? (i := 1122) (by decide +kernel), List.mem_of_getElem? (i := 1123) (by decide +kernel)⟩
theorem lw_p45 : lw_okq (⟨"RookHusting$Guesses", "countAlike", "(II)I"⟩, 4) := ⟨⟨by decide +kernel, by decide +kernel⟩, List.mem_of_getElem? (i := 358) (by decide +kernel), List.mem_of_getElem? (i := 1127) (by decide +kernel), List.mem_of_getElem? (i := 1128) (by decide +kernel)⟩
theorem lw_p46 : lw_okq (⟨"RookHusting", "gainOf", "(IIII)I"⟩, 16) := ⟨⟨by decide +kernel, by decide +kernel⟩, List.mem_of_getElem? (i := 22) (by decide +kernel), List.mem_of_getElem? (i := 1140) (by decide +kernel), List.mem_of_getElem? (i := 1141) (by decide +kernel)⟩
theorem lw_p47 : lw_okq (⟨"RookHusting", "isChanceDay", "(I)Z"⟩, 16) := ⟨⟨by decide +kernel, by decide +kernel⟩, List.mem_of_getElem? (i := 22) (by decide +kernel), List.mem_of_getElem? (i := 1152) (by decide +kernel), List.mem_of_getElem? (i := 1153) (by decide +kernel)⟩
def lw_privs_3 : List (MethodName × Nat) := [(⟨"RookHusting", "cellNow", "([III)I"⟩, 16), (⟨"RookHusting", "isEatingDay", "(I)Z"⟩, 16), (⟨"RookHusting", "sumNow", "([II)I"⟩, 16), (⟨"RookHusting", "mostNow", "([II)I"⟩, 16), (⟨"RookHusting", "firstZeroNow", "([II)I"⟩, 16), (⟨"RookHusting$PutSearch", "fillFrom", "(II)V"⟩, 8), (⟨"RookHusting$PutSearch", "weighRow", "(I)V"⟩, 8), (⟨"RookHusting", "leftByLaw", "(I)I"⟩, 16), (⟨"RookHusting", "leftOnTrial", "()I"⟩, 16), (⟨"RookHusting", "wrongSeen", "(II)I"⟩, 16), (⟨"RookHusting", "guessAll", "(II)V"⟩, 16), (⟨"RookHusting", "isAsSeen", "(I)Z"⟩, 16), (⟨"RookHusting$Guesses", "mostAlike", "(I)I"⟩, 4), (⟨"RookHusting$Guesses", "countAlike", "(II)I"⟩, 4), (⟨"RookHusting", "gainOf", "(IIII)I"⟩, 16), (⟨"RookHusting", "isChanceDay", "(I)Z"⟩, 16)]
theorem lw_r3 : ∀ q ∈ lw_privs_3, lw_okq q := List.forall_mem_cons.mpr ⟨lw_p32, List.forall_mem_cons.mpr ⟨lw_p33, List.forall_mem_cons.mpr ⟨lw_p34, List.forall_mem_cons.mpr ⟨lw_p35, List.forall_mem_cons.mpr ⟨lw_p36, List.forall_mem_cons.mpr ⟨lw_p37, List.forall_mem_cons.mpr ⟨lw_p38, List.forall_mem_cons.mpr ⟨lw_p39, List.forall_mem_cons.mpr ⟨lw_p40, List.forall_mem_cons.mpr ⟨lw_p41, List.forall_mem_cons.mpr ⟨lw_p42, List.forall_mem_cons.mpr ⟨lw_p43, List.forall_mem_cons.mpr ⟨lw_p44, List.forall_mem_cons.mpr ⟨lw_p45, List.forall_mem_cons.mpr ⟨lw_p46, List.forall_mem_cons.mpr ⟨lw_p47, fun _ h => absurd h List.not_mem_nil⟩⟩⟩⟩⟩⟩⟩⟩⟩⟩⟩⟩⟩⟩⟩⟩
theorem lw_p48 : lw_okq (⟨"RookHusting", "windWeight", "(II)J"⟩, 16) := ⟨⟨by decide +kernel, by decide +kernel⟩, List.mem_of_getElem? (i := 22) (by decide +kernel), List.mem_of_getElem? (i := 1157) (by decide +kernel), List.mem_of_getElem? (i := 1158) (by decide +kernel)⟩
theorem lw_p49 : lw_okq (⟨"RookHusting", "drawWind", "(J)I"⟩, 16) := ⟨⟨by decide +kernel, by decide +kernel⟩, List.mem_of_getElem? (i := 22) (by decide +kernel), List.mem_of_getElem? (i := 1177) (by decide +kernel), List.mem_of_getElem? (i := 1178) (by decide +kernel)⟩
theorem lw_p50 : lw_okq (⟨"RookHusting", "drawHarvest", "(J)V"⟩, 16) := ⟨⟨by decide +kernel, by decide +kernel⟩, List.mem_of_getElem? (i := 22) (by decide +kernel), List.mem_of_getElem? (i := 1185) (by decide +kernel), List.mem_of_getElem? (i := 1186) (by decide +kernel)⟩
theorem lw_p51 : lw_okq (⟨"RookHustingModel", "advance", "()V"⟩, 45) := ⟨⟨by decide +kernel, by decide +kernel⟩, List.mem_of_getElem? (i := 1272) (by decide +kernel), List.mem_of_getElem? (i := 1442) (by decide +kernel), List.mem_of_getElem? (i := 1443) (by decide +kernel)⟩
theorem lw_p52 : lw_okq (⟨"RookHustingModel", "see", "(I)I"⟩, 45) := ⟨⟨by decide +kernel, by decide +kernel⟩, List.mem_of_getElem? (i := 1272) (by decide +kernel), List.mem_of_getElem? (i := 1446) (by decide +kernel), List.mem_of_getElem? (i := 1447) (by decide +kernel)⟩
theorem lw_p53 : lw_okq (⟨"RookHustingModel", "good", "()Z"⟩, 45) := ⟨⟨by decide +kernel, by decide +kernel⟩, List.mem_of_getElem? (i := 1272) (by decide +kernel), List.mem_of_getElem? (i := 1456) (by decide +kernel), List.mem_of_getElem? (i := 1457) (by decide +kernel)⟩
theorem lw_p54 : lw_okq (⟨"RookHustingModel", "readLine", "()V"⟩, 45) := ⟨⟨by decide +kernel, by decide +kernel⟩, List.mem_of_getElem? (i := 1272) (by decide +kernel), List.mem_of_getElem? (i := 1460) (by decide +kernel), List.mem_of_getElem? (i := 1461) (by decide +kernel)⟩
theorem lw_p55 : lw_okq (⟨"RookHustingModel", "readFirst", "()V"⟩, 45) := ⟨⟨by decide +kernel, by decide +kernel⟩, List.mem_of_getElem? (i := 1272) (by decide +kernel), List.mem_of_getElem? (i := 1464) (by decide +kernel), List.mem_of_getElem? (i := 1465) (by decide +kernel)⟩
theorem lw_p56 : lw_okq (⟨"RookHustingModel", "expects", "(Ljava/lang/String;)V"⟩, 45) := ⟨⟨by decide +kernel, by decide +kernel⟩, List.mem_of_getElem? (i := 1272) (by decide +kernel), List.mem_of_getElem? (i := 1469) (by decide +kernel), List.mem_of_getElem? (i := 1470) (by decide +kernel)⟩
theorem lw_p57 : lw_okq (⟨"RookHustingModel", "takes", "(Ljava/lang/String;)Z"⟩, 45) := ⟨⟨by decide +kernel, by decide +kernel⟩, List.mem_of_getElem? (i := 1272) (by decide +kernel), List.mem_of_getElem? (i := 1473) (by decide +kernel), List.mem_of_getElem? (i := 1474) (by decide +kernel)⟩
theorem lw_p58 : lw_okq (⟨"RookHustingModel", "is", "(Ljava/lang/String;)Z"⟩, 45) := ⟨⟨by decide +kernel, by decide +kernel⟩, List.mem_of_getElem? (i := 1272) (by decide +kernel), List.mem_of_getElem? (i := 1477) (by decide +kernel), List.mem_of_getElem? (i := 1478) (by decide +kernel)⟩
theorem lw_p59 : lw_okq (⟨"RookHustingModel", "errs", "(I)V"⟩, 45) := ⟨⟨by decide +kernel, by decide +kernel⟩, List.mem_of_getElem? (i := 1272) (by decide +kernel), List.mem_of_getElem? (i := 1483) (by decide +kernel), List.mem_of_getElem? (i := 1484) (by decide +kernel)⟩
theorem lw_p60 : lw_okq (⟨"RookHustingModel", "told", "(Ljava/lang/String;II)I"⟩, 45) := ⟨⟨by decide +kernel, by decide +kernel⟩, List.mem_of_getElem? (i := 1272) (by decide +kernel), List.mem_of_getElem? (i := 1488) (by decide +kernel), List.mem_of_getElem? (i := 1489) (by decide +kernel)⟩
theorem lw_p61 : lw_okq (⟨"RookHustingModel", "number", "(II)I"⟩, 45) := ⟨⟨by decide +kernel, by decide +kernel⟩, List.mem_of_getElem? (i := 1272) (by decide +kernel), List.mem_of_getElem? (i := 1492) (by decide +kernel), List.mem_of_getElem? (i := 1493) (by decide +kernel)⟩
theorem lw_p62 : lw_okq (⟨"RookHustingModel", "readNext", "()V"⟩, 45) := ⟨⟨by decide +kernel, by decide +kernel⟩, List.mem_of_getElem? (i := 1272) (by decide +kernel), List.mem_of_getElem? (i := 1498) (by decide +kernel), List.mem_of_getElem? (i := 1499) (by decide +kernel)⟩
theorem lw_p63 : lw_okq (⟨"RookHustingModel", "isFull", "()Z"⟩, 45) := ⟨⟨by decide +kernel, by decide +kernel⟩, List.mem_of_getElem? (i := 1272) (by decide +kernel), List.mem_of_getElem? (i := 1506) (by decide +kernel), List.mem_of_getElem? (i := 1507) (by decide +kernel)⟩
def lw_privs_4 : List (MethodName × Nat) := [(⟨"RookHusting", "windWeight", "(II)J"⟩, 16), (⟨"RookHusting", "drawWind", "(J)I"⟩, 16), (⟨"RookHusting", "drawHarvest", "(J)V"⟩, 16), (⟨"RookHustingModel", "advance", "()V"⟩, 45), (⟨"RookHustingModel", "see", "(I)I"⟩, 45), (⟨"RookHustingModel", "good", "()Z"⟩, 45), (⟨"RookHustingModel", "readLine", "()V"⟩, 45), (⟨"RookHustingModel", "readFirst", "()V"⟩, 45), (⟨"RookHustingModel", "expects", "(Ljava/lang/String;)V"⟩, 45), (⟨"RookHustingModel", "takes", "(Ljava/lang/String;)Z"⟩, 45), (⟨"RookHustingModel", "is", "(Ljava/lang/String;)Z"⟩, 45), (⟨"RookHustingModel", "errs", "(I)V"⟩, 45), (⟨"RookHustingModel", "told", "(Ljava/lang/String;II)I"⟩, 45), (⟨"RookHustingModel", "number", "(II)I"⟩, 45), (⟨"RookHustingModel", "readNext", "()V"⟩, 45), (⟨"RookHustingModel", "isFull", "()Z"⟩, 45)]
theorem lw_r4 : ∀ q ∈ lw_privs_4, lw_okq q := List.forall_mem_cons.mpr ⟨lw_p48, List.forall_mem_cons.mpr ⟨lw_p49, List.forall_mem_cons.mpr ⟨lw_p50, List.forall_mem_cons.mpr ⟨lw_p51, List.forall_mem_cons.mpr ⟨lw_p52, List.forall_mem_cons.mpr ⟨lw_p53, List.forall_mem_cons.mpr ⟨lw_p54, List.forall_mem_cons.mpr ⟨lw_p55, List.forall_mem_cons.mpr ⟨lw_p56, List.forall_mem_cons.mpr ⟨lw_p57, List.forall_mem_cons.mpr ⟨lw_p58, List.forall_mem_cons.mpr ⟨lw_p59, List.forall_mem_cons.mpr ⟨lw_p60, List.forall_mem_cons.mpr ⟨lw_p61, List.forall_mem_cons.mpr ⟨lw_p62, List.forall_mem_cons.mpr ⟨lw_p63, fun _ h => absurd h List.not_mem_nil⟩⟩⟩⟩⟩⟩⟩⟩⟩⟩⟩⟩⟩⟩⟩⟩
theorem lw_p64 : lw_okq (⟨"RookHustingModel", "readHedge", "()V"⟩, 45) := ⟨⟨by decide +kernel, by decide +kernel⟩, List.mem_of_getElem? (i := 1272) (by decide +kernel), List.mem_of_getElem? (i := 1512) (by decide +kernel), List.mem_of_getElem? (i := 1513) (by decide +kernel)⟩
theorem lw_p65 : lw_okq (⟨"RookHustingModel", "readVoter", "()V"⟩, 45) := ⟨⟨by decide +kernel, by decide +kernel⟩, List.mem_of_getElem? (i := 1272) (by decide +kernel), List.mem_of_getElem? (i := 1518) (by decide +kernel), List.mem_of_getElem? (i := 1519) (by decide +kernel)⟩
theorem lw_p66 : lw_okq (⟨"RookHustingModel", "isField", "(J)Z"⟩, 45) := ⟨⟨by decide +kernel, by decide +kernel⟩, List.mem_of_getElem? (i := 1272) (by decide +kernel), List.mem_of_getElem? (i := 1530) (by decide +kernel), List.mem_of_getElem? (i := 1531) (by decide +kernel)⟩
theorem lw_p67 : lw_okq (⟨"RookHustingModel", "fields", "()I"⟩, 45) := ⟨⟨by decide +kernel, by decide +kernel⟩, List.mem_of_getElem? (i := 1272) (by decide +kernel), List.mem_of_getElem? (i := 1534) (by decide +kernel), List.mem_of_getElem? (i := 1535) (by decide +kernel)⟩
theorem lw_p68 : lw_okq (⟨"RookHustingModel", "isMan", "(I)Z"⟩, 45) := ⟨⟨by decide +kernel, by decide +kernel⟩, List.mem_of_getElem? (i := 1272) (by decide +kernel), List.mem_of_getElem? (i := 1542) (by decide +kernel), List.mem_of_getElem? (i := 1543) (by decide +kernel)⟩
theorem lw_p69 : lw_okq (⟨"RookHustingModel", "men", "()I"⟩, 45) := ⟨⟨by decide +kernel, by decide +kernel⟩, List.mem_of_getElem? (i := 1272) (by decide +kernel), List.mem_of_getElem? (i := 1546) (by decide +kernel), List.mem_of_getElem? (i := 1547) (by decide +kernel)⟩
theorem lw_p70 : lw_okq (⟨"RookHustingModel", "isVoter", "(I)Z"⟩, 45) := ⟨⟨by decide +kernel, by decide +kernel⟩, List.mem_of_getElem? (i := 1272) (by decide +kernel), List.mem_of_getElem? (i := 1554) (by decide +kernel), List.mem_of_getElem? (i := 1555) (by decide +kernel)⟩
theorem lw_p71 : lw_okq (⟨"RookHustingModel", "hatsOf", "(I)I"⟩, 45) := ⟨⟨by decide +kernel, by decide +kernel⟩, List.mem_of_getElem? (i := 1272) (by decide +kernel), List.mem_of_getElem? (i := 1558) (by decide +kernel), List.mem_of_getElem? (i := 1559) (by decide +kernel)⟩
theorem lw_p72 : lw_okq (⟨"RookHustingModel", "rowsAsTold", "()V"⟩, 45) := ⟨⟨by decide +kernel, by decide +kernel⟩, List.mem_of_getElem? (i := 1272) (by decide +kernel), List.mem_of_getElem? (i := 1566) (by decide +kernel), List.mem_of_getElem? (i := 1567) (by decide +kernel)⟩
theorem lw_p73 : lw_okq (⟨"RookHustingModel", "isSet", "(I)Z"⟩, 45) := ⟨⟨by decide +kernel, by decide +kernel⟩, List.mem_of_getElem? (i := 1272) (by decide +kernel), List.mem_of_getElem? (i := 1574) (by decide +kernel), List.mem_of_getElem? (i := 1575) (by decide +kernel)⟩
theorem lw_p74 : lw_okq (⟨"RookHustingModel", "isHundred", "()Z"⟩, 45) := ⟨⟨by decide +kernel, by decide +kernel⟩, List.mem_of_getElem? (i := 1272) (by decide +kernel), List.mem_of_getElem? (i := 1578) (by decide +kernel), List.mem_of_getElem? (i := 1579) (by decide +kernel)⟩
theorem lw_p75 : lw_okq (⟨"RookHustingModel", "allMen", "()I"⟩, 45) := ⟨⟨by decide +kernel, by decide +kernel⟩, List.mem_of_getElem? (i := 1272) (by decide +kernel), List.mem_of_getElem? (i := 1582) (by decide +kernel), List.mem_of_getElem? (i := 1583) (by decide +kernel)⟩
theorem lw_p76 : lw_okq (⟨"RookHustingModel", "votesOf", "(III)I"⟩, 45) := ⟨⟨by decide +kernel, by decide +kernel⟩, List.mem_of_getElem? (i := 1272) (by decide +kernel), List.mem_of_getElem? (i := 1587) (by decide +kernel), List.mem_of_getElem? (i := 1588) (by decide +kernel)⟩
theorem lw_p77 : lw_okq (⟨"RookHustingModel", "timesOf", "(IIII)I"⟩, 45) := ⟨⟨by decide +kernel, by decide +kernel⟩, List.mem_of_getElem? (i := 1272) (by decide +kernel), List.mem_of_getElem? (i := 1591) (by decide +kernel), List.mem_of_getElem? (i := 1592) (by decide +kernel)⟩
theorem lw_p78 : lw_okq (⟨"RookHustingModel", "electsOf", "(II)I"⟩, 45) := ⟨⟨by decide +kernel, by decide +kernel⟩, List.mem_of_getElem? (i := 1272) (by decide +kernel), List.mem_of_getElem? (i := 1602) (by decide +kernel), List.mem_of_getElem? (i := 1603) (by decide +kernel)⟩
theorem lw_p79 : lw_okq (⟨"RookHustingModel", "fewestOf", "(I)I"⟩, 45) := ⟨⟨by decide +kernel, by decide +kernel⟩, List.mem_of_getElem? (i := 1272) (by decide +kernel), List.mem_of_getElem? (i := 1606) (by decide +kernel), List.mem_of_getElem? (i := 1607) (by decide +kernel)⟩
def lw_privs_5 : List (MethodName × Nat) := [(⟨"RookHustingModel", "readHedge", "()V"⟩, 45), (⟨"RookHustingModel", "readVoter", "()V"⟩, 45), (⟨"RookHustingModel", "isField", "(J)Z"⟩, 45), (⟨"RookHustingModel", "fields", "()I"⟩, 45), (⟨"RookHustingModel", "isMan", "(I)Z"⟩, 45), (⟨"RookHustingModel", "men", "()I"⟩, 45), (⟨"RookHustingModel", "isVoter", "(I)Z"⟩, 45), (⟨"RookHustingModel", "hatsOf", "(I)I"⟩, 45), (⟨"RookHustingModel", "rowsAsTold", "()V"⟩, 45), (⟨"RookHustingModel", "isSet", "(I)Z"⟩, 45), (⟨"RookHustingModel", "isHundred", "()Z"⟩, 45), (⟨"RookHustingModel", "allMen", "()I"⟩, 45), (⟨"RookHustingModel", "votesOf", "(III)I"⟩, 45), (⟨"RookHustingModel", "timesOf", "(IIII)I"⟩, 45), (⟨"RookHustingModel", "electsOf", "(II)I"⟩, 45), (⟨"RookHustingModel", "fewestOf", "(I)I"⟩, 45)]
theorem lw_r5 : ∀ q ∈ lw_privs_5, lw_okq q := List.forall_mem_cons.mpr ⟨lw_p64, List.forall_mem_cons.mpr ⟨lw_p65, List.forall_mem_cons.mpr ⟨lw_p66, List.forall_mem_cons.mpr ⟨lw_p67, List.forall_mem_cons.mpr ⟨lw_p68, List.forall_mem_cons.mpr ⟨lw_p69, List.forall_mem_cons.mpr ⟨lw_p70, List.forall_mem_cons.mpr ⟨lw_p71, List.forall_mem_cons.mpr ⟨lw_p72, List.forall_mem_cons.mpr ⟨lw_p73, List.forall_mem_cons.mpr ⟨lw_p74, List.forall_mem_cons.mpr ⟨lw_p75, List.forall_mem_cons.mpr ⟨lw_p76, List.forall_mem_cons.mpr ⟨lw_p77, List.forall_mem_cons.mpr ⟨lw_p78, List.forall_mem_cons.mpr ⟨lw_p79, fun _ h => absurd h List.not_mem_nil⟩⟩⟩⟩⟩⟩⟩⟩⟩⟩⟩⟩⟩⟩⟩⟩
theorem lw_p80 : lw_okq (⟨"RookHustingModel", "mostOf", "(II)I"⟩, 45) := ⟨⟨by decide +kernel, by decide +kernel⟩, List.mem_of_getElem? (i := 1272) (by decide +kernel), List.mem_of_getElem? (i := 1610) (by decide +kernel), List.mem_of_getElem? (i := 1611) (by decide +kernel)⟩
theorem lw_p81 : lw_okq (⟨"RookHustingModel", "electAll", "(I)V"⟩, 45) := ⟨⟨by decide +kernel, by decide +kernel⟩, List.mem_of_getElem? (i := 1272) (by decide +kernel), List.mem_of_getElem? (i := 1618) (by decide +kernel), List.mem_of_getElem? (i := 1619) (by decide +kernel)⟩
theorem lw_p82 : lw_okq (⟨"RookHustingModel", "overOf", "(II)I"⟩, 45) := ⟨⟨by decide +kernel, by decide +kernel⟩, List.mem_of_getElem? (i := 1272) (by decide +kernel), List.mem_of_getElem? (i := 1626) (by decide +kernel), List.mem_of_getElem? (i := 1627) (by decide +kernel)⟩
theorem lw_p83 : lw_okq (⟨"RookHustingModel", "wantsMore", "(III)Z"⟩, 45) := ⟨⟨by decide +kernel, by decide +kernel⟩, List.mem_of_getElem? (i := 1272) (by decide +kernel), List.mem_of_getElem? (i := 1630) (by decide +kernel), List.mem_of_getElem? (i := 1631) (by decide +kernel)⟩
theorem lw_p84 : lw_okq (⟨"RookHustingModel", "isOver", "(II)Z"⟩, 45) := ⟨⟨by decide +kernel, by decide +kernel⟩, List.mem_of_getElem? (i := 1272) (by decide +kernel), List.mem_of_getElem? (i := 1638) (by decide +kernel), List.mem_of_getElem? (i := 1639) (by decide +kernel)⟩
theorem lw_p85 : lw_okq (⟨"RookHustingModel", "isRing", "(III)Z"⟩, 45) := ⟨⟨by decide +kernel, by decide +kernel⟩, List.mem_of_getElem? (i := 1272) (by decide +kernel), List.mem_of_getElem? (i := 1646) (by decide +kernel), List.mem_of_getElem? (i := 1647) (by decide +kernel)⟩
theorem lw_p86 : lw_okq (⟨"RookHustingModel", "hatsIn", "(I)I"⟩, 45) := ⟨⟨by decide +kernel, by decide +kernel⟩, List.mem_of_getElem? (i := 1272) (by decide +kernel), List.mem_of_getElem? (i := 1655) (by decide +kernel), List.mem_of_getElem? (i := 1656) (by decide +kernel)⟩
theorem lw_p87 : lw_okq (⟨"RookHustingModel", "gainsOf", "(I)Z"⟩, 45) := ⟨⟨by decide +kernel, by decide +kernel⟩, List.mem_of_getElem? (i := 1272) (by decide +kernel), List.mem_of_getElem? (i := 1663) (by decide +kernel), List.mem_of_getElem? (i := 1664) (by decide +kernel)⟩
theorem lw_p88 : lw_okq (⟨"RookHustingModel", "doesGain", "(IIII)Z"⟩, 45) := ⟨⟨by decide +kernel, by decide +kernel⟩, List.mem_of_getElem? (i := 1272) (by decide +kernel), List.mem_of_getElem? (i := 1667) (by decide +kernel), List.mem_of_getElem? (i := 1668) (by decide +kernel)⟩
theorem lw_p89 : lw_okq (⟨"RookHustingModel", "asItIs", "()V"⟩, 45) := ⟨⟨by decide +kernel, by decide +kernel⟩, List.mem_of_getElem? (i := 1272) (by decide +kernel), List.mem_of_getElem? (i := 1711) (by decide +kernel), List.mem_of_getElem? (i := 1712) (by decide +kernel)⟩
theorem lw_p90 : lw_okq (⟨"RookHustingModel", "asElected", "(I)V"⟩, 45) := ⟨⟨by decide +kernel, by decide +kernel⟩, List.mem_of_getElem? (i := 1272) (by decide +kernel), List.mem_of_getElem? (i := 1715) (by decide +kernel), List.mem_of_getElem? (i := 1716) (by decide +kernel)⟩
theorem lw_p91 : lw_okq (⟨"RookHustingModel", "speeches", "()V"⟩, 45) := ⟨⟨by decide +kernel, by decide +kernel⟩, List.mem_of_getElem? (i := 1272) (by decide +kernel), List.mem_of_getElem? (i := 1719) (by decide +kernel), List.mem_of_getElem? (i := 1720) (by decide +kernel)⟩
theorem lw_p92 : lw_okq (⟨"RookHustingModel", "putMan", "(II)V"⟩, 45) := ⟨⟨by decide +kernel, by decide +kernel⟩, List.mem_of_getElem? (i := 1272) (by decide +kernel), List.mem_of_getElem? (i := 1723) (by decide +kernel), List.mem_of_getElem? (i := 1724) (by decide +kernel)⟩
theorem lw_p93 : lw_okq (⟨"RookHustingModel", "hedgesOf", "(I)I"⟩, 45) := ⟨⟨by decide +kernel, by decide +kernel⟩, List.mem_of_getElem? (i := 1272) (by decide +kernel), List.mem_of_getElem? (i := 1739) (by decide +kernel), List.mem_of_getElem? (i := 1740) (by decide +kernel)⟩
theorem lw_p94 : lw_okq (⟨"RookHustingModel", "asksDay", "(I)Z"⟩, 45) := ⟨⟨by decide +kernel, by decide +kernel⟩, List.mem_of_getElem? (i := 1272) (by decide +kernel), List.mem_of_getElem? (i := 1747) (by decide +kernel), List.mem_of_getElem? (i := 1748) (by decide +kernel)⟩
theorem lw_p95 : lw_okq (⟨"RookHustingModel", "asksHundred", "()Z"⟩, 45) := ⟨⟨by decide +kernel, by decide +kernel⟩, List.mem_of_getElem? (i := 1272) (by decide +kernel), List.mem_of_getElem? (i := 1751) (by decide +kernel), List.mem_of_getElem? (i := 1752) (by decide +kernel)⟩
def lw_privs_6 : List (MethodName × Nat) := [(⟨"RookHustingModel", "mostOf", "(II)I"⟩, 45), (⟨"RookHustingModel", "electAll", "(I)V"⟩, 45), (⟨"RookHustingModel", "overOf", "(II)I"⟩, 45), (⟨"RookHustingModel", "wantsMore", "(III)Z"⟩, 45), (⟨"RookHustingModel", "isOver", "(II)Z"⟩, 45), (⟨"RookHustingModel", "isRing", "(III)Z"⟩, 45), (⟨"RookHustingModel", "hatsIn", "(I)I"⟩, 45), (⟨"RookHustingModel", "gainsOf", "(I)Z"⟩, 45), (⟨"RookHustingModel", "doesGain", "(IIII)Z"⟩, 45), (⟨"RookHustingModel", "asItIs", "()V"⟩, 45), (⟨"RookHustingModel", "asElected", "(I)V"⟩, 45), (⟨"RookHustingModel", "speeches", "()V"⟩, 45), (⟨"RookHustingModel", "putMan", "(II)V"⟩, 45), (⟨"RookHustingModel", "hedgesOf", "(I)I"⟩, 45), (⟨"RookHustingModel", "asksDay", "(I)Z"⟩, 45), (⟨"RookHustingModel", "asksHundred", "()Z"⟩, 45)]
theorem lw_r6 : ∀ q ∈ lw_privs_6, lw_okq q := List.forall_mem_cons.mpr ⟨lw_p80, List.forall_mem_cons.mpr ⟨lw_p81, List.forall_mem_cons.mpr ⟨lw_p82, List.forall_mem_cons.mpr ⟨lw_p83, List.forall_mem_cons.mpr ⟨lw_p84, List.forall_mem_cons.mpr ⟨lw_p85, List.forall_mem_cons.mpr ⟨lw_p86, List.forall_mem_cons.mpr ⟨lw_p87, List.forall_mem_cons.mpr ⟨lw_p88, List.forall_mem_cons.mpr ⟨lw_p89, List.forall_mem_cons.mpr ⟨lw_p90, List.forall_mem_cons.mpr ⟨lw_p91, List.forall_mem_cons.mpr ⟨lw_p92, List.forall_mem_cons.mpr ⟨lw_p93, List.forall_mem_cons.mpr ⟨lw_p94, List.forall_mem_cons.mpr ⟨lw_p95, fun _ h => absurd h List.not_mem_nil⟩⟩⟩⟩⟩⟩⟩⟩⟩⟩⟩⟩⟩⟩⟩⟩
theorem lw_p96 : lw_okq (⟨"RookHustingModel", "goAll", "()V"⟩, 45) := ⟨⟨by decide +kernel, by decide +kernel⟩, List.mem_of_getElem? (i := 1272) (by decide +kernel), List.mem_of_getElem? (i := 1755) (by decide +kernel), List.mem_of_getElem? (i := 1756) (by decide +kernel)⟩
theorem lw_p97 : lw_okq (⟨"RookHustingModel", "days", "()I"⟩, 45) := ⟨⟨by decide +kernel, by decide +kernel⟩, List.mem_of_getElem? (i := 1272) (by decide +kernel), List.mem_of_getElem? (i := 1759) (by decide +kernel), List.mem_of_getElem? (i := 1760) (by decide +kernel)⟩
theorem lw_p98 : lw_okq (⟨"RookHustingModel", "fearOf", "(II)I"⟩, 45) := ⟨⟨by decide +kernel, by decide +kernel⟩, List.mem_of_getElem? (i := 1272) (by decide +kernel), List.mem_of_getElem? (i := 1763) (by decide +kernel), List.mem_of_getElem? (i := 1764) (by decide +kernel)⟩
theorem lw_p99 : lw_okq (⟨"RookHustingModel", "goDay", "(I)V"⟩, 45) := ⟨⟨by decide +kernel, by decide +kernel⟩, List.mem_of_getElem? (i := 1272) (by decide +kernel), List.mem_of_getElem? (i := 1768) (by decide +kernel), List.mem_of_getElem? (i := 1769) (by decide +kernel)⟩
theorem lw_p100 : lw_okq (⟨"RookHustingModel", "flyTo", "(II)I"⟩, 45) := ⟨⟨by decide +kernel, by decide +kernel⟩, List.mem_of_getElem? (i := 1272) (by decide +kernel), List.mem_of_getElem? (i := 1772) (by decide +kernel), List.mem_of_getElem? (i := 1773) (by decide +kernel)⟩
theorem lw_p101 : lw_okq (⟨"RookHustingModel", "isDay", "(J)Z"⟩, 45) := ⟨⟨by decide +kernel, by decide +kernel⟩, List.mem_of_getElem? (i := 1272) (by decide +kernel), List.mem_of_getElem? (i := 1776) (by decide +kernel), List.mem_of_getElem? (i := 1777) (by decide +kernel)⟩
theorem lw_p102 : lw_okq (⟨"RookHustingModel", "asksAhead", "(I)Z"⟩, 45) := ⟨⟨by decide +kernel, by decide +kernel⟩, List.mem_of_getElem? (i := 1272) (by decide +kernel), List.mem_of_getElem? (i := 1792) (by decide +kernel), List.mem_of_getElem? (i := 1793) (by decide +kernel)⟩
theorem lw_p103 : lw_okq (⟨"RookHustingModel", "isAhead", "(J)Z"⟩, 45) := ⟨⟨by decide +kernel, by decide +kernel⟩, List.mem_of_getElem? (i := 1272) (by decide +kernel), List.mem_of_getElem? (i := 1796) (by decide +kernel), List.mem_of_getElem? (i := 1797) (by decide +kernel)⟩
theorem lw_p104 : lw_okq (⟨"RookHustingModel", "allCorn", "(I)I"⟩, 45) := ⟨⟨by decide +kernel, by decide +kernel⟩, List.mem_of_getElem? (i := 1272) (by decide +kernel), List.mem_of_getElem? (i := 1808) (by decide +kernel), List.mem_of_getElem? (i := 1809) (by decide +kernel)⟩
theorem lw_p105 : lw_okq (⟨"RookHustingModel", "asksField", "(I)Z"⟩, 45) := ⟨⟨by decide +kernel, by decide +kernel⟩, List.mem_of_getElem? (i := 1272) (by decide +kernel), List.mem_of_getElem? (i := 1820) (by decide +kernel), List.mem_of_getElem? (i := 1821) (by decide +kernel)⟩
theorem lw_p106 : lw_okq (⟨"RookHustingModel", "asksRows", "()Z"⟩, 45) := ⟨⟨by decide +kernel, by decide +kernel⟩, List.mem_of_getElem? (i := 1272) (by decide +kernel), List.mem_of_getElem? (i := 1868) (by decide +kernel), List.mem_of_getElem? (i := 1869) (by decide +kernel)⟩
theorem lw_p107 : lw_okq (⟨"RookHustingModel", "tryRow", "()V"⟩, 45) := ⟨⟨by decide +kernel, by decide +kernel⟩, List.mem_of_getElem? (i := 1272) (by decide +kernel), List.mem_of_getElem? (i := 1872) (by decide +kernel), List.mem_of_getElem? (i := 1873) (by decide +kernel)⟩
theorem lw_p108 : lw_okq (⟨"RookHustingModel", "menIn", "()I"⟩, 45) := ⟨⟨by decide +kernel, by decide +kernel⟩, List.mem_of_getElem? (i := 1272) (by decide +kernel), List.mem_of_getElem? (i := 1876) (by decide +kernel), List.mem_of_getElem? (i := 1877) (by decide +kernel)⟩
theorem lw_p109 : lw_okq (⟨"RookHustingModel", "allLast", "()I"⟩, 45) := ⟨⟨by decide +kernel, by decide +kernel⟩, List.mem_of_getElem? (i := 1272) (by decide +kernel), List.mem_of_getElem? (i := 1880) (by decide +kernel), List.mem_of_getElem? (i := 1881) (by decide +kernel)⟩
theorem lw_p110 : lw_okq (⟨"RookHustingModel", "nextRow", "()Z"⟩, 45) := ⟨⟨by decide +kernel, by decide +kernel⟩, List.mem_of_getElem? (i := 1272) (by decide +kernel), List.mem_of_getElem? (i := 1884) (by decide +kernel), List.mem_of_getElem? (i := 1885) (by decide +kernel)⟩
theorem lw_p111 : lw_okq (⟨"RookHustingModel", "leftBy", "(I)I"⟩, 45) := ⟨⟨by decide +kernel, by decide +kernel⟩, List.mem_of_getElem? (i := 1272) (by decide +kernel), List.mem_of_getElem? (i := 1904) (by decide +kernel), List.mem_of_getElem? (i := 1905) (by decide +kernel)⟩
def lw_privs_7 : List (MethodName × Nat) := [(⟨"RookHustingModel", "goAll", "()V"⟩, 45), (⟨"RookHustingModel", "days", "()I"⟩, 45), (⟨"RookHustingModel", "fearOf", "(II)I"⟩, 45), (⟨"RookHustingModel", "goDay", "(I)V"⟩, 45), (⟨"RookHustingModel", "flyTo", "(II)I"⟩, 45), (⟨"RookHustingModel", "isDay", "(J)Z"⟩, 45), (⟨"RookHustingModel", "asksAhead", "(I)Z"⟩, 45), (⟨"RookHustingModel", "isAhead", "(J)Z"⟩, 45), (⟨"RookHustingModel", "allCorn", "(I)I"⟩, 45), (⟨"RookHustingModel", "asksField", "(I)Z"⟩, 45), (⟨"RookHustingModel", "asksRows", "()Z"⟩, 45), (⟨"RookHustingModel", "tryRow", "()V"⟩, 45), (⟨"RookHustingModel", "menIn", "()I"⟩, 45), (⟨"RookHustingModel", "allLast", "()I"⟩, 45), (⟨"RookHustingModel", "nextRow", "()Z"⟩, 45), (⟨"RookHustingModel", "leftBy", "(I)I"⟩, 45)]
theorem lw_r7 : ∀ q ∈ lw_privs_7, lw_okq q := List.forall_mem_cons.mpr ⟨lw_p96, List.forall_mem_cons.mpr ⟨lw_p97, List.forall_mem_cons.mpr ⟨lw_p98, List.forall_mem_cons.mpr ⟨lw_p99, List.forall_mem_cons.mpr ⟨lw_p100, List.forall_mem_cons.mpr ⟨lw_p101, List.forall_mem_cons.mpr ⟨lw_p102, List.forall_mem_cons.mpr ⟨lw_p103, List.forall_mem_cons.mpr ⟨lw_p104, List.forall_mem_cons.mpr ⟨lw_p105, List.forall_mem_cons.mpr ⟨lw_p106, List.forall_mem_cons.mpr ⟨lw_p107, List.forall_mem_cons.mpr ⟨lw_p108, List.forall_mem_cons.mpr ⟨lw_p109, List.forall_mem_cons.mpr ⟨lw_p110, List.forall_mem_cons.mpr ⟨lw_p111, fun _ h => absurd h List.not_mem_nil⟩⟩⟩⟩⟩⟩⟩⟩⟩⟩⟩⟩⟩⟩⟩⟩
theorem lw_p112 : lw_okq (⟨"RookHustingModel", "layMay", "(II)I"⟩, 45) := ⟨⟨by decide +kernel, by decide +kernel⟩, List.mem_of_getElem? (i := 1272) (by decide +kernel), List.mem_of_getElem? (i := 1924) (by decide +kernel), List.mem_of_getElem? (i := 1925) (by decide +kernel)⟩
theorem lw_p113 : lw_okq (⟨"RookHustingModel", "askSeen", "(II)I"⟩, 45) := ⟨⟨by decide +kernel, by decide +kernel⟩, List.mem_of_getElem? (i := 1272) (by decide +kernel), List.mem_of_getElem? (i := 1928) (by decide +kernel), List.mem_of_getElem? (i := 1929) (by decide +kernel)⟩
theorem lw_p114 : lw_okq (⟨"RookHustingModel", "numberAt", "(II)J"⟩, 45) := ⟨⟨by decide +kernel, by decide +kernel⟩, List.mem_of_getElem? (i := 1272) (by decide +kernel), List.mem_of_getElem? (i := 1935) (by decide +kernel), List.mem_of_getElem? (i := 1936) (by decide +kernel)⟩
theorem lw_p115 : lw_okq (⟨"RookHustingModel", "isSeen", "(I)Z"⟩, 45) := ⟨⟨by decide +kernel, by decide +kernel⟩, List.mem_of_getElem? (i := 1272) (by decide +kernel), List.mem_of_getElem? (i := 1940) (by decide +kernel), List.mem_of_getElem? (i := 1941) (by decide +kernel)⟩
theorem lw_p116 : lw_okq (⟨"RookHustingModel", "askOf", "()I"⟩, 45) := ⟨⟨by decide +kernel, by decide +kernel⟩, List.mem_of_getElem? (i := 1272) (by decide +kernel), List.mem_of_getElem? (i := 1948) (by decide +kernel), List.mem_of_getElem? (i := 1949) (by decide +kernel)⟩
theorem lw_p117 : lw_okq (⟨"RookHustingModel", "sameBy", "(II)I"⟩, 45) := ⟨⟨by decide +kernel, by decide +kernel⟩, List.mem_of_getElem? (i := 1272) (by decide +kernel), List.mem_of_getElem? (i := 1952) (by decide +kernel), List.mem_of_getElem? (i := 1953) (by decide +kernel)⟩
theorem lw_p118 : lw_okq (⟨"RookHustingModel", "areFields", "(II)Z"⟩, 45) := ⟨⟨by decide +kernel, by decide +kernel⟩, List.mem_of_getElem? (i := 1272) (by decide +kernel), List.mem_of_getElem? (i := 1964) (by decide +kernel), List.mem_of_getElem? (i := 1965) (by decide +kernel)⟩
theorem lw_p119 : lw_okq (⟨"RookHustingModel", "getsBy", "(IIIII)I"⟩, 45) := ⟨⟨by decide +kernel, by decide +kernel⟩, List.mem_of_getElem? (i := 1272) (by decide +kernel), List.mem_of_getElem? (i := 1968) (by decide +kernel), List.mem_of_getElem? (i := 1969) (by decide +kernel)⟩
theorem lw_p120 : lw_okq (⟨"RookHustingModel", "isWinds", "(II)Z"⟩, 45) := ⟨⟨by decide +kernel, by decide +kernel⟩, List.mem_of_getElem? (i := 1272) (by decide +kernel), List.mem_of_getElem? (i := 1981) (by decide +kernel), List.mem_of_getElem? (i := 1982) (by decide +kernel)⟩
theorem lw_p121 : lw_okq (⟨"RookHustingModel", "layWinds", "(III)V"⟩, 45) := ⟨⟨by decide +kernel, by decide +kernel⟩, List.mem_of_getElem? (i := 1272) (by decide +kernel), List.mem_of_getElem? (i := 1987) (by decide +kernel), List.mem_of_getElem? (i := 1988) (by decide +kernel)⟩
theorem lw_p122 : lw_okq (⟨"RookHustingModel", "keepAct", "(I)Z"⟩, 45) := ⟨⟨by decide +kernel, by decide +kernel⟩, List.mem_of_getElem? (i := 1272) (by decide +kernel), List.mem_of_getElem? (i := 1999) (by decide +kernel), List.mem_of_getElem? (i := 2000) (by decide +kernel)⟩
theorem lw_p123 : lw_okq (⟨"RookHustingModel", "goDrawn", "(J)V"⟩, 45) := ⟨⟨by decide +kernel, by decide +kernel⟩, List.mem_of_getElem? (i := 1272) (by decide +kernel), List.mem_of_getElem? (i := 2023) (by decide +kernel), List.mem_of_getElem? (i := 2024) (by decide +kernel)⟩
def lw_privs_8 : List (MethodName × Nat) := [(⟨"RookHustingModel", "layMay", "(II)I"⟩, 45), (⟨"RookHustingModel", "askSeen", "(II)I"⟩, 45), (⟨"RookHustingModel", "numberAt", "(II)J"⟩, 45), (⟨"RookHustingModel", "isSeen", "(I)Z"⟩, 45), (⟨"RookHustingModel", "askOf", "()I"⟩, 45), (⟨"RookHustingModel", "sameBy", "(II)I"⟩, 45), (⟨"RookHustingModel", "areFields", "(II)Z"⟩, 45), (⟨"RookHustingModel", "getsBy", "(IIIII)I"⟩, 45), (⟨"RookHustingModel", "isWinds", "(II)Z"⟩, 45), (⟨"RookHustingModel", "layWinds", "(III)V"⟩, 45), (⟨"RookHustingModel", "keepAct", "(I)Z"⟩, 45), (⟨"RookHustingModel", "goDrawn", "(J)V"⟩, 45)]
theorem lw_r8 : ∀ q ∈ lw_privs_8, lw_okq q := List.forall_mem_cons.mpr ⟨lw_p112, List.forall_mem_cons.mpr ⟨lw_p113, List.forall_mem_cons.mpr ⟨lw_p114, List.forall_mem_cons.mpr ⟨lw_p115, List.forall_mem_cons.mpr ⟨lw_p116, List.forall_mem_cons.mpr ⟨lw_p117, List.forall_mem_cons.mpr ⟨lw_p118, List.forall_mem_cons.mpr ⟨lw_p119, List.forall_mem_cons.mpr ⟨lw_p120, List.forall_mem_cons.mpr ⟨lw_p121, List.forall_mem_cons.mpr ⟨lw_p122, List.forall_mem_cons.mpr ⟨lw_p123, fun _ h => absurd h List.not_mem_nil⟩⟩⟩⟩⟩⟩⟩⟩⟩⟩⟩⟩
def lw_privs : List (MethodName × Nat) := lw_privs_1 ++ (lw_privs_2 ++ (lw_privs_3 ++ (lw_privs_4 ++ (lw_privs_5 ++ (lw_privs_6 ++ (lw_privs_7 ++ (lw_privs_8)))))))
def lw_tbl : List Cond := k2_sels lw_privs ++ tables_1
theorem lw_privs_ok : ∀ q ∈ lw_privs, lw_okq q := by
  show ∀ q ∈ lw_privs_1 ++ (lw_privs_2 ++ (lw_privs_3 ++ (lw_privs_4 ++ (lw_privs_5 ++ (lw_privs_6 ++ (lw_privs_7 ++ (lw_privs_8))))))), lw_okq q
  exact List.forall_mem_append.mpr ⟨lw_r1, List.forall_mem_append.mpr ⟨lw_r2, List.forall_mem_append.mpr ⟨lw_r3, List.forall_mem_append.mpr ⟨lw_r4, List.forall_mem_append.mpr ⟨lw_r5, List.forall_mem_append.mpr ⟨lw_r6, List.forall_mem_append.mpr ⟨lw_r7, lw_r8⟩⟩⟩⟩⟩⟩⟩
-- ===== end of PART A; then your names; then what follows =====
/-- the words that every method may lean on: those of the tables that travel -/
def gTbl : List Cond := lw_tbl.filter goodWord
theorem gT_of {w : Cond} {i : Nat} (h : lw_tbl[i]? = some w) (hg : goodWord w = true) : w ∈ gTbl := List.mem_filter.mpr ⟨List.mem_of_getElem? h, hg⟩
theorem gT_good {c : Cond} (hc : c ∈ gTbl) : GoodIn gTbl (c :: gTbl) := fun w hw => by
  rcases List.mem_cons.mp hw with rfl | hw
  · exact ⟨hc, good_of_word (List.mem_filter.mp hc).2⟩
  · exact ⟨hw, good_of_word (List.mem_filter.mp hw).2⟩
end
section
/-! ===== an interpreter over intervals: its values ===== -/
abbrev AV : Type := Nat × Int × Int
abbrev AC : Type := (Nat × List AV) ⊕ (Nat × List (Nat × AV))
abbrev GI : Type := List (Int × Int)
abbrev EV : Type := List Value × List Nat
/-- two lists, place by place -/
def zf2 {α β : Type} (R : α → β → Prop) : List α → List β → Prop
  | [], [] => True
  | a :: as, b :: bs => R a b ∧ zf2 R as bs
  | [], _ :: _ => False
  | _ :: _, [] => False
theorem zf2_get {α β : Type} {R : α → β → Prop} : ∀ {as : List α} {bs : List β}, zf2 R as bs → ∀ {i : Nat} {a : α}, as[i]? = some a → ∃ b, bs[i]? = some b ∧ R a b
  | [], [], _, i, a, h => by simp at h
  | x :: as, y :: bs, h, 0, a, hi => ⟨y, rfl, by cases hi; exact h.1⟩
  | x :: as, y :: bs, h, i + 1, a, hi => zf2_get (as := as) (bs := bs) h.2 (i := i) (by simpa using hi)
theorem zf2_len {α β : Type} {R : α → β → Prop} : ∀ {as : List α} {bs : List β}, zf2 R as bs → as.length = bs.length
  | [], [], _ => rfl
  | _ :: as, _ :: bs, h => congrArg (· + 1) (zf2_len (as := as) (bs := bs) h.2)
theorem zf2_mono {α β : Type} {R S : α → β → Prop} (hm : ∀ a b, R a b → S a b) : ∀ {as : List α} {bs : List β}, zf2 R as bs → zf2 S as bs
  | [], [], _ => trivial
  | _ :: as, _ :: bs, h => ⟨hm _ _ h.1, zf2_mono hm (as := as) (bs := bs) h.2⟩
theorem zf2_set {α β : Type} {R : α → β → Prop} {a : α} {b : β} (hr : R a b) : ∀ {as : List α} {bs : List β}, zf2 R as bs → ∀ (i : Nat), zf2 R (as.set i a) (bs.set i b)
  | [], [], _, _ => trivial
  | _ :: as, _ :: bs, h, 0 => ⟨hr, h.2⟩
  | _ :: as, _ :: bs, h, i + 1 => ⟨h.1, zf2_set hr (as := as) (bs := bs) h.2 i⟩
theorem zf2_app {α β : Type} {R : α → β → Prop} {a : α} {b : β} (hr : R a b) : ∀ {as : List α} {bs : List β}, zf2 R as bs → zf2 R (as ++ [a]) (bs ++ [b])
  | [], [], _ => ⟨hr, trivial⟩
  | _ :: as, _ :: bs, h => ⟨h.1, zf2_app hr (as := as) (bs := bs) h.2⟩
theorem zf2_of {α β : Type} {R : α → β → Prop} : ∀ {as : List α} {bs : List β}, as.length = bs.length → (∀ (i : Nat) (a : α) (b : β), as[i]? = some a → bs[i]? = some b → R a b) → zf2 R as bs
  | [], [], _, _ => trivial
  | [], _ :: _, h, _ => by simp at h
  | _ :: _, [], h, _ => by simp at h
  | a :: as, b :: bs, h, hr => ⟨hr 0 a b rfl rfl, zf2_of (as := as) (bs := bs) (by simpa using h) (fun i x y hx hy => hr (i + 1) x y (by simpa using hx) (by simpa using hy))⟩
theorem zf2_cons {α β : Type} {R : α → β → Prop} {a : α} {as : List α} {bs : List β} (h : zf2 R (a :: as) bs) : ∃ b bs', bs = b :: bs' ∧ R a b ∧ zf2 R as bs' := by
  cases bs with
  | nil => exact h.elim
  | cons b bs' => exact ⟨b, bs', rfl, h.1, h.2⟩
def inI (q : Int × Int) (z : Int) : Prop := q.1 ≤ z ∧ z ≤ q.2
abbrev GS (G : GI) (g : List Int) : Prop := zf2 inI G g
def gxt (g g' : List Int) : Prop := ∃ e, g' = g ++ e
theorem gxt_rf {g : List Int} : gxt g g := ⟨[], by simp⟩
theorem gxt_one {g : List Int} {z : Int} : gxt g (g ++ [z]) := ⟨[z], rfl⟩
theorem gxt_tr {a b c : List Int} (h : gxt a b) (k : gxt b c) : gxt a c := by
  obtain ⟨e, rfl⟩ := h; obtain ⟨f, rfl⟩ := k; exact ⟨e ++ f, by simp⟩
theorem gxt_get {g g' : List Int} (h : gxt g g') {i : Nat} {z : Int} (hi : g[i]? = some z) : g'[i]? = some z := by
  obtain ⟨e, rfl⟩ := h
  rw [List.getElem?_append_left (List.getElem?_eq_some_iff.mp hi).1]; exact hi
/-- what a value is: 0 an int, 1 a named int and more, 2 an int between; 3, 4, 5 the same of longs; 6 a place of the world; 7 null; 8 a value as it was -/
def gam (g : List Int) (V : EV) (a : AV) (v : Value) : Prop :=
  match a.1 with
  | 0 => ∃ x : Int32, v = .int x ∧ x.toInt = a.2.1
  | 1 => ∃ x : Int32, v = .int x ∧ ∃ z, g[a.2.1.toNat]? = some z ∧ x.toInt = z + a.2.2
  | 2 => ∃ x : Int32, v = .int x ∧ a.2.1 ≤ x.toInt ∧ x.toInt ≤ a.2.2
  | 3 => ∃ x : Int64, v = .long x ∧ x.toInt = a.2.1
  | 4 => ∃ x : Int64, v = .long x ∧ ∃ z, g[a.2.1.toNat]? = some z ∧ x.toInt = z + a.2.2
  | 5 => ∃ x : Int64, v = .long x ∧ a.2.1 ≤ x.toInt ∧ x.toInt ≤ a.2.2
  | 6 => ∃ r : Nat, V.2[a.2.1.toNat]? = some r ∧ v = .ref r
  | 7 => v = .null
  | 8 => V.1[a.2.1.toNat]? = some v
  | _ => False
theorem gam_ext {g g' : List Int} {V : EV} {a : AV} {v : Value} (h : gxt g g') (hg : gam g V a v) : gam g' V a v := by
  unfold gam at hg ⊢
  split at hg
  · exact hg
  · obtain ⟨x, h1, z, h2, h3⟩ := hg; exact ⟨x, h1, z, gxt_get h h2, h3⟩
  · exact hg
  · exact hg
  · obtain ⟨x, h1, z, h2, h3⟩ := hg; exact ⟨x, h1, z, gxt_get h h2, h3⟩
  · exact hg
  · exact hg
  · exact hg
  · exact hg
  · exact hg.elim
def ivI (G : GI) (a : AV) : Option (Int × Int) :=
  match a.1 with
  | 0 => some (a.2.1, a.2.1)
  | 1 => match G[a.2.1.toNat]? with
    | some q => some (q.1 + a.2.2, q.2 + a.2.2)
    | none => none
  | 2 => some (a.2.1, a.2.2)
  | _ => none
def ivL (G : GI) (a : AV) : Option (Int × Int) :=
  match a.1 with
  | 3 => some (a.2.1, a.2.1)
  | 4 => match G[a.2.1.toNat]? with
    | some q => some (q.1 + a.2.2, q.2 + a.2.2)
    | none => none
  | 5 => some (a.2.1, a.2.2)
  | _ => none
theorem ivI_ok {G : GI} {g : List Int} {V : EV} {a : AV} {v : Value} {q : Int × Int} (hG : GS G g) (h : gam g V a v) (hi : ivI G a = some q) : ∃ x : Int32, v = .int x ∧ inI q x.toInt := by
  obtain ⟨t, b, c⟩ := a
  unfold ivI at hi
  split at hi
  · rename_i ht; simp only at ht; subst ht
    obtain ⟨x, h1, h2⟩ := h
    cases hi; exact ⟨x, h1, by simp only at h2; exact ⟨by simp [h2], by simp [h2]⟩⟩
  · rename_i ht; simp only at ht; subst ht
    obtain ⟨x, h1, z, h2, h3⟩ := h
    split at hi
    · rename_i r hr
      cases hi
      obtain ⟨z', h4, h5⟩ := zf2_get hG hr
      simp only at h2 h3
      have : z = z' := Option.some.inj (h2.symm.trans h4)
      subst this
      unfold inI at h5
      exact ⟨x, h1, by unfold inI; simp only; omega⟩
    · cases hi
  · rename_i ht; simp only at ht; subst ht
    obtain ⟨x, h1, h2, h3⟩ := h
    cases hi; exact ⟨x, h1, h2, h3⟩
  · cases hi
theorem ivL_ok {G : GI} {g : List Int} {V : EV} {a : AV} {v : Value} {q : Int × Int} (hG : GS G g) (h : gam g V a v) (hi : ivL G a = some q) : ∃ x : Int64, v = .long x ∧ inI q x.toInt := by
  obtain ⟨t, b, c⟩ := a
  unfold ivL at hi
  split at hi
  · rename_i ht; simp only at ht; subst ht
    obtain ⟨x, h1, h2⟩ := h
    cases hi; exact ⟨x, h1, by simp only at h2; exact ⟨by simp [h2], by simp [h2]⟩⟩
  · rename_i ht; simp only at ht; subst ht
    obtain ⟨x, h1, z, h2, h3⟩ := h
    split at hi
    · rename_i r hr
      cases hi
      obtain ⟨z', h4, h5⟩ := zf2_get hG hr
      simp only at h2 h3
      have : z = z' := Option.some.inj (h2.symm.trans h4)
      subst this
      unfold inI at h5
      exact ⟨x, h1, by unfold inI; simp only; omega⟩
    · cases hi
  · rename_i ht; simp only at ht; subst ht
    obtain ⟨x, h1, h2, h3⟩ := h
    cases hi; exact ⟨x, h1, h2, h3⟩
  · cases hi
/-- a new number between two bounds -/
def mk2 (G : GI) (q : Int × Int) : GI × AV := if q.1 = q.2 then (G, (0, q.1, 0)) else (G ++ [q], (1, (G.length : Int), 0))
def mk5 (G : GI) (q : Int × Int) : GI × AV := if q.1 = q.2 then (G, (3, q.1, 0)) else (G ++ [q], (4, (G.length : Int), 0))
theorem mk2_ok {G : GI} {g : List Int} {V : EV} {q : Int × Int} (hG : GS G g) (x : Int32) (hx : inI q x.toInt) : ∃ g', gxt g g' ∧ GS (mk2 G q).1 g' ∧ gam g' V (mk2 G q).2 (.int x) := by
  unfold mk2
  split
  · rename_i h
    unfold inI at hx
    exact ⟨g, gxt_rf, hG, x, rfl, by simp only; omega⟩
  · refine ⟨g ++ [x.toInt], gxt_one, zf2_app hx hG, x, rfl, x.toInt, ?_, by simp⟩
    simp [zf2_len hG]
theorem mk5_ok {G : GI} {g : List Int} {V : EV} {q : Int × Int} (hG : GS G g) (x : Int64) (hx : inI q x.toInt) : ∃ g', gxt g g' ∧ GS (mk5 G q).1 g' ∧ gam g' V (mk5 G q).2 (.long x) := by
  unfold mk5
  split
  · rename_i h
    unfold inI at hx
    exact ⟨g, gxt_rf, hG, x, rfl, by simp only; omega⟩
  · refine ⟨g ++ [x.toInt], gxt_one, zf2_app hx hG, x, rfl, x.toInt, ?_, by simp⟩
    simp [zf2_len hG]
def topI : Int × Int := (-2147483648, 2147483647)
def topL : Int × Int := (-9223372036854775808, 9223372036854775807)
theorem topI_ok (x : Int32) : inI topI x.toInt := ⟨Int32.le_toInt x, by have := Int32.toInt_lt x; show x.toInt ≤ 2147483647; omega⟩
theorem topL_ok (x : Int64) : inI topL x.toInt := ⟨Int64.le_toInt x, by have := Int64.toInt_lt x; show x.toInt ≤ 9223372036854775807; omega⟩
end
section
/-! ===== sums and their like, over intervals ===== -/
def BinS (f : GI → AV → AV → Option (GI × AV)) (op : Int32 → Int32 → Int32) : Prop := ∀ (G : GI) (g : List Int) (V : EV) (a b : AV) (x y : Int32) (r : GI × AV), GS G g → gam g V a (.int x) → gam g V b (.int y) → f G a b = some r → ∃ g', gxt g g' ∧ GS r.1 g' ∧ gam g' V r.2 (.int (op x y))
def binF (F : Int × Int → Int × Int → Int × Int) (G : GI) (a b : AV) : Option (GI × AV) :=
  match ivI G a, ivI G b with
  | some p, some q => some (mk2 G (F p q))
  | _, _ => none
theorem binF_ok {F : Int × Int → Int × Int → Int × Int} {op : Int32 → Int32 → Int32} (h : ∀ (p q : Int × Int) (x y : Int32), inI p x.toInt → inI q y.toInt → inI (F p q) (op x y).toInt) : BinS (binF F) op := by
  intro G g V a b x y r hG ha hb hf
  unfold binF at hf
  split at hf
  · rename_i p q hp hq
    obtain ⟨x', e1, h1⟩ := ivI_ok hG ha hp
    obtain ⟨y', e2, h2⟩ := ivI_ok hG hb hq
    cases e1; cases e2; cases hf
    exact mk2_ok hG _ (h p q x y h1 h2)
  · cases hf
theorem ae_bm {z : Int} (h1 : -2147483648 ≤ z) (h2 : z ≤ 2147483647) : z.bmod (2 ^ 32) = z := Int.bmod_eq_of_le (by omega) (by omega)
theorem ae_bmL {z : Int} (h1 : -9223372036854775808 ≤ z) (h2 : z ≤ 9223372036854775807) : z.bmod (2 ^ 64) = z := Int.bmod_eq_of_le (by omega) (by omega)
/-- x + y: a named number and a known one keep the name -/
def addI (G : GI) (a b : AV) : Option (GI × AV) :=
  match ivI G a, ivI G b with
  | some p, some q =>
    if -2147483648 ≤ p.1 + q.1 ∧ p.2 + q.2 ≤ 2147483647 then
      if a.1 = 1 ∧ b.1 = 0 then some (G, (1, a.2.1, a.2.2 + b.2.1))
      else if a.1 = 0 ∧ b.1 = 1 then some (G, (1, b.2.1, b.2.2 + a.2.1))
      else some (mk2 G (p.1 + q.1, p.2 + q.2))
    else some (mk2 G topI)
  | _, _ => none
theorem addI_ok : BinS addI (fun x y => x + y) := by
  intro G g V a b x y r hG ha hb hf
  unfold addI at hf
  split at hf
  · rename_i p q hp hq
    obtain ⟨x', e1, h1⟩ := ivI_ok hG ha hp
    obtain ⟨y', e2, h2⟩ := ivI_ok hG hb hq
    cases e1; cases e2
    unfold inI at h1 h2
    split at hf
    · rename_i hr
      have hs : (x + y).toInt = x.toInt + y.toInt := by rw [Int32.toInt_add, ae_bm (by omega) (by omega)]
      split at hf
      · rename_i ht
        cases hf
        obtain ⟨ta, a1, a2⟩ := a; obtain ⟨tb, b1, b2⟩ := b
        simp only at ht
        obtain ⟨rfl, rfl⟩ := ht
        obtain ⟨u, eu, z, h4, h5⟩ := ha
        obtain ⟨w, ew, h6⟩ := hb
        cases eu; cases ew
        exact ⟨g, gxt_rf, hG, _, rfl, z, h4, by rw [hs]; simp only at h5 h6 ⊢; omega⟩
      · split at hf
        · rename_i ht
          cases hf
          obtain ⟨ta, a1, a2⟩ := a; obtain ⟨tb, b1, b2⟩ := b
          simp only at ht
          obtain ⟨rfl, rfl⟩ := ht
          obtain ⟨u, eu, h6⟩ := ha
          obtain ⟨w, ew, z, h4, h5⟩ := hb
          cases eu; cases ew
          exact ⟨g, gxt_rf, hG, _, rfl, z, h4, by rw [hs]; simp only at h5 h6 ⊢; omega⟩
        · cases hf
          exact mk2_ok hG _ (by unfold inI; rw [hs]; simp only; omega)
    · cases hf
      exact mk2_ok hG _ (topI_ok _)
  · cases hf
def subI (G : GI) (a b : AV) : Option (GI × AV) :=
  match ivI G a, ivI G b with
  | some p, some q =>
    if -2147483648 ≤ p.1 - q.2 ∧ p.2 - q.1 ≤ 2147483647 then
      if a.1 = 1 ∧ b.1 = 0 then some (G, (1, a.2.1, a.2.2 - b.2.1))
      else some (mk2 G (p.1 - q.2, p.2 - q.1))
    else some (mk2 G topI)
  | _, _ => none
theorem subI_ok : BinS subI (fun x y => x - y) := by
  intro G g V a b x y r hG ha hb hf
  unfold subI at hf
  split at hf
  · rename_i p q hp hq
    obtain ⟨x', e1, h1⟩ := ivI_ok hG ha hp
    obtain ⟨y', e2, h2⟩ := ivI_ok hG hb hq
    cases e1; cases e2
    unfold inI at h1 h2
    split at hf
    · rename_i hr
      have hs : (x - y).toInt = x.toInt - y.toInt := by rw [Int32.toInt_sub, ae_bm (by omega) (by omega)]
      split at hf
      · rename_i ht
        cases hf
        obtain ⟨ta, a1, a2⟩ := a; obtain ⟨tb, b1, b2⟩ := b
        simp only at ht
        obtain ⟨rfl, rfl⟩ := ht
        obtain ⟨u, eu, z, h4, h5⟩ := ha
        obtain ⟨w, ew, h6⟩ := hb
        cases eu; cases ew
        exact ⟨g, gxt_rf, hG, _, rfl, z, h4, by rw [hs]; simp only at h5 h6 ⊢; omega⟩
      · cases hf
        exact mk2_ok hG _ (by unfold inI; rw [hs]; simp only; omega)
    · cases hf
      exact mk2_ok hG _ (topI_ok _)
  · cases hf
def mulF (p q : Int × Int) : Int × Int := if 0 ≤ p.1 ∧ 0 ≤ q.1 ∧ p.2 * q.2 ≤ 2147483647 then (p.1 * q.1, p.2 * q.2) else topI
theorem ae_mul {a b c d x y : Int} (h0 : 0 ≤ a) (h1 : 0 ≤ c) (hx : a ≤ x) (hx2 : x ≤ b) (hy : c ≤ y) (hy2 : y ≤ d) : a * c ≤ x * y ∧ x * y ≤ b * d :=
  ⟨Int.mul_le_mul hx hy h1 (Int.le_trans h0 hx), Int.mul_le_mul hx2 hy2 (Int.le_trans h1 hy) (Int.le_trans (Int.le_trans h0 hx) hx2)⟩
theorem mulF_ok (p q : Int × Int) (x y : Int32) (hx : inI p x.toInt) (hy : inI q y.toInt) : inI (mulF p q) (x * y).toInt := by
  unfold mulF
  split
  · rename_i h
    unfold inI at hx hy
    have hm := ae_mul h.1 h.2.1 hx.1 hx.2 hy.1 hy.2
    have hp : 0 ≤ p.1 * q.1 := Int.mul_nonneg h.1 h.2.1
    rw [Int32.toInt_mul, ae_bm (by omega) (by omega)]
    exact hm
  · exact topI_ok _
theorem ae_and (x y : Int32) (hy : 0 ≤ y.toInt) : 0 ≤ (x &&& y).toInt ∧ (x &&& y).toInt ≤ y.toInt := by
  have e1 : (x &&& y).toInt = (x.toBitVec &&& y.toBitVec).toInt := rfl
  have e2 : y.toInt = y.toBitVec.toInt := rfl
  rw [e1]
  rw [e2] at hy ⊢
  have hle : (x.toBitVec &&& y.toBitVec).toNat ≤ y.toBitVec.toNat := by rw [BitVec.toNat_and]; exact Nat.and_le_right
  rw [BitVec.toInt_eq_toNat_cond] at hy ⊢
  rw [BitVec.toInt_eq_toNat_cond]
  have h1 := y.toBitVec.isLt
  have h2 := (x.toBitVec &&& y.toBitVec).isLt
  split at hy
  · rename_i h3
    rw [if_pos h3, if_pos (by omega)]
    omega
  · omega
theorem ae_andc (x y : Int32) : x &&& y = y &&& x := by
  apply Int32.toBitVec_inj.mp
  exact BitVec.and_comm _ _
def andF (p q : Int × Int) : Int × Int := if 0 ≤ q.1 ∧ 0 ≤ p.1 then (0, min p.2 q.2) else if 0 ≤ q.1 then (0, q.2) else if 0 ≤ p.1 then (0, p.2) else topI
theorem andF_ok (p q : Int × Int) (x y : Int32) (hx : inI p x.toInt) (hy : inI q y.toInt) : inI (andF p q) (x &&& y).toInt := by
  unfold inI at hx hy
  unfold andF
  split
  · have h1 := ae_and x y (by omega)
    have h2 := ae_and y x (by omega)
    rw [ae_andc y x] at h2
    exact ⟨h1.1, by simp only; omega⟩
  · split
    · have h1 := ae_and x y (by omega)
      exact ⟨h1.1, by simp only; omega⟩
    · split
      · have h2 := ae_and y x (by omega)
        rw [ae_andc y x] at h2
        exact ⟨h2.1, by simp only; omega⟩
      · exact topI_ok _
def topF (_ _ : Int × Int) : Int × Int := topI
theorem topF_ok {op : Int32 → Int32 → Int32} (p q : Int × Int) (x y : Int32) (_ : inI p x.toInt) (_ : inI q y.toInt) : inI (topF p q) (op x y).toInt := topI_ok _
def shrF (p _ : Int × Int) : Int × Int := if 0 ≤ p.1 then (0, p.2) else topI
theorem shrF_ok (p q : Int × Int) (x y : Int32) (hx : inI p x.toInt) (_ : inI q y.toInt) : inI (shrF p q) (x >>> (y &&& 31)).toInt := by
  unfold inI at hx
  unfold shrF
  split
  · rw [pk_shr x (y &&& 31) _ rfl, Int.shiftRight_eq_div_pow]
    refine ⟨Int.ediv_nonneg (by omega) (Int.natCast_nonneg _), ?_⟩
    exact Int.le_trans (Int.ediv_le_self _ (by omega)) hx.2
  · exact topI_ok _
theorem ae_sl : ∀ n : Nat, n < 32 → ((nI n &&& 31).toBitVec.smod 32).toNat = n := by decide +kernel
theorem ae_nI {x : Int32} (h : 0 ≤ x.toInt) : x = nI x.toInt.toNat := by
  apply Int32.toInt_inj.mp
  have := Int32.toInt_lt x
  rw [nI_toInt (by omega)]
  omega
def shlF (p q : Int × Int) : Int × Int := if 0 ≤ p.1 ∧ 0 ≤ q.1 ∧ q.2 ≤ 30 ∧ p.2 * ((2 ^ q.2.toNat : Nat) : Int) ≤ 2147483647 then (p.1 * ((2 ^ q.1.toNat : Nat) : Int), p.2 * ((2 ^ q.2.toNat : Nat) : Int)) else topI
theorem shlF_ok (p q : Int × Int) (x y : Int32) (hx : inI p x.toInt) (hy : inI q y.toInt) : inI (shlF p q) (x <<< (y &&& 31)).toInt := by
  unfold inI at hx hy
  unfold shlF
  split
  · rename_i h
    have ex := ae_nI (x := x) (by omega)
    have ey := ae_nI (x := y) (by omega)
    generalize hn : x.toInt.toNat = n at ex
    generalize hk : y.toInt.toNat = k at ey
    have hnx : x.toInt = (n : Int) := by omega
    have hky : y.toInt = (k : Int) := by omega
    have hp1 : (2 : Nat) ^ k ≤ 2 ^ q.2.toNat := Nat.pow_le_pow_right (by decide) (by omega)
    have hp2 : (2 : Nat) ^ q.1.toNat ≤ 2 ^ k := Nat.pow_le_pow_right (by decide) (by omega)
    have hm := ae_mul (a := p.1) (b := p.2) (c := ((2 ^ q.1.toNat : Nat) : Int)) (d := ((2 ^ q.2.toNat : Nat) : Int)) (x := (n : Int)) (y := ((2 ^ k : Nat) : Int)) h.1 (Int.natCast_nonneg _) (by omega) (by omega) (Int.ofNat_le.mpr hp2) (Int.ofNat_le.mpr hp1)
    have hb : n * 2 ^ k < 2 ^ 31 := by
      have : ((n * 2 ^ k : Nat) : Int) ≤ 2147483647 := by rw [Int.natCast_mul]; omega
      omega
    rw [ex, ey, pk_shlN _ k (ae_sl k (by omega)) (by omega), nI_toInt hb, Int.natCast_mul]
    exact hm
  · exact topI_ok _
def divF (p q : Int × Int) : Int × Int := if 0 ≤ p.1 ∧ 0 < q.1 then (0, p.2 / q.1) else topI
theorem divF_ok (p q : Int × Int) (x y : Int32) (hx : inI p x.toInt) (hy : inI q y.toInt) : inI (divF p q) (x / y).toInt := by
  unfold inI at hx hy
  unfold divF
  split
  · rename_i h
    have ex := ae_nI (x := x) (by omega)
    have ey := ae_nI (x := y) (by omega)
    have b1 := Int32.toInt_lt x
    have b2 := Int32.toInt_lt y
    generalize hn : x.toInt.toNat = n at ex
    generalize hk : y.toInt.toNat = k at ey
    have hnx : x.toInt = (n : Int) := by omega
    have hky : y.toInt = (k : Int) := by omega
    have hdl : n / k ≤ n := Nat.div_le_self n k
    rw [ex, ey, pk_div (by omega) (by omega) (by omega), nI_toInt (by omega)]
    refine ⟨Int.natCast_nonneg _, ?_⟩
    show ((n / k : Nat) : Int) ≤ p.2 / q.1
    rw [Int.natCast_ediv]
    refine Int.le_trans (Int.ediv_le_ediv (by omega) (show (n : Int) ≤ p.2 by omega)) ?_
    apply Int.le_ediv_of_mul_le h.2
    have h5 : p.2 / (k : Int) * q.1 ≤ p.2 / (k : Int) * (k : Int) := Int.mul_le_mul_of_nonneg_left (by omega) (Int.ediv_nonneg (by omega) (by omega))
    have h6 : p.2 / (k : Int) * (k : Int) ≤ p.2 := Int.ediv_mul_le _ (by omega)
    omega
  · exact topI_ok _
def remF (p q : Int × Int) : Int × Int := if 0 ≤ p.1 ∧ 0 < q.1 then (0, min p.2 (q.2 - 1)) else topI
theorem remF_ok (p q : Int × Int) (x y : Int32) (hx : inI p x.toInt) (hy : inI q y.toInt) : inI (remF p q) (x - x / y * y).toInt := by
  unfold inI at hx hy
  unfold remF
  split
  · rename_i h
    have ex := ae_nI (x := x) (by omega)
    have ey := ae_nI (x := y) (by omega)
    have b1 := Int32.toInt_lt x
    have b2 := Int32.toInt_lt y
    generalize hn : x.toInt.toNat = n at ex
    generalize hk : y.toInt.toNat = k at ey
    have hnx : x.toInt = (n : Int) := by omega
    have hky : y.toInt = (k : Int) := by omega
    have h1 : n % k ≤ n := Nat.mod_le n k
    have h2 : n % k < k := Nat.mod_lt n (by omega)
    rw [ex, ey, pk_rem (by omega) (by omega) (by omega), nI_toInt (by omega)]
    exact ⟨by omega, by simp only; omega⟩
  · exact topI_ok _
/-- an int as a long: the same number -/
def i2lA (a : AV) : Option AV := match a.1 with
  | 0 => some (3, a.2.1, a.2.2)
  | 1 => some (4, a.2.1, a.2.2)
  | 2 => some (5, a.2.1, a.2.2)
  | _ => none
theorem i2lA_ok {g : List Int} {V : EV} {a r : AV} {v : Value} (h : gam g V a v) (hr : i2lA a = some r) : ∃ x : Int32, v = .int x ∧ gam g V r (.long x.toInt64) := by
  obtain ⟨t, b, c⟩ := a
  unfold i2lA at hr
  split at hr
  · rename_i ht; simp only at ht; subst ht; cases hr
    obtain ⟨x, h1, h2⟩ := h
    exact ⟨x, h1, _, rfl, by rw [Int32.toInt_toInt64]; exact h2⟩
  · rename_i ht; simp only at ht; subst ht; cases hr
    obtain ⟨x, h1, z, h2, h3⟩ := h
    exact ⟨x, h1, _, rfl, z, h2, by rw [Int32.toInt_toInt64]; exact h3⟩
  · rename_i ht; simp only at ht; subst ht; cases hr
    obtain ⟨x, h1, h2, h3⟩ := h
    exact ⟨x, h1, _, rfl, by rw [Int32.toInt_toInt64]; exact h2, by rw [Int32.toInt_toInt64]; exact h3⟩
  · cases hr
theorem ae_i2b (x : Int32) : inI (-128, 127) x.toInt8.toInt32.toInt := by
  rw [lg_i2b_toInt]
  unfold inI
  have h1 := Int.le_bmod (x := x.toInt) (m := 2 ^ 8) (by decide)
  have h2 := Int.bmod_lt (x := x.toInt) (m := 2 ^ 8) (by decide)
  constructor <;> simp only <;> omega
end
