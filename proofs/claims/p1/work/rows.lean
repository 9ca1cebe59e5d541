section
-- ===== PART A: goes FIRST, ahead of the names: the tables' words, and 'selects' of the private methods out of them =====
/-- a private method of a class that the tables say can be made, by its rows of tables_1 -/
def lw_okq (q : MethodName × Nat) : Prop := (q.1.cls ≠ "java/lang/invoke/MethodHandle" ∧ q.1.cls ≠ "java/lang/invoke/VarHandle") ∧ Cond.instantiable q.1.cls q.2 ∈ tables_1 ∧ Cond.privateMethod q.1 ∈ tables_1 ∧ Cond.instanceMethod q.1 ∈ tables_1
theorem lw_p0 : lw_okq (⟨"RookHusting$Reader", "readHead", "()V"⟩, 4) := ⟨⟨by decide +kernel, by decide +kernel⟩, List.mem_of_getElem? (i := 60) (by decide +kernel), List.mem_of_getElem? (i := 482) (by decide +kernel), List.mem_of_getElem? (i := 483) (by decide +kernel)⟩
theorem lw_p1 : lw_okq (⟨"RookHusting$Reader", "takeWord", "(Ljava/lang/String;)V"⟩, 4) := ⟨⟨by decide +kernel, by decide +kernel⟩, List.mem_of_getElem? (i := 60) (by decide +kernel), List.mem_of_getElem? (i := 487) (by decide +kernel), List.mem_of_getElem? (i := 488) (by decide +kernel)⟩
theorem lw_p2 : lw_okq (⟨"RookHusting$Reader", "blame", "(I)V"⟩, 4) := ⟨⟨by decide +kernel, by decide +kernel⟩, List.mem_of_getElem? (i := 60) (by decide +kernel), List.mem_of_getElem? (i := 543) (by decide +kernel), List.mem_of_getElem? (i := 544) (by decide +kernel)⟩
theorem lw_p3 : lw_okq (⟨"RookHusting$Reader", "takeNamed", "(Ljava/lang/String;II)I"⟩, 4) := ⟨⟨by decide +kernel, by decide +kernel⟩, List.mem_of_getElem? (i := 60) (by decide +kernel), List.mem_of_getElem? (i := 549) (by decide +kernel), List.mem_of_getElem? (i := 550) (by decide +kernel)⟩
theorem lw_p4 : lw_okq (⟨"RookHusting$Reader", "takeNumber", "(III)I"⟩, 4) := ⟨⟨by decide +kernel, by decide +kernel⟩, List.mem_of_getElem? (i := 60) (by decide +kernel), List.mem_of_getElem? (i := 553) (by decide +kernel), List.mem_of_getElem? (i := 554) (by decide +kernel)⟩
theorem lw_p5 : lw_okq (⟨"RookHusting$Reader", "readField", "()V"⟩, 4) := ⟨⟨by decide +kernel, by decide +kernel⟩, List.mem_of_getElem? (i := 60) (by decide +kernel), List.mem_of_getElem? (i := 563) (by decide +kernel), List.mem_of_getElem? (i := 564) (by decide +kernel)⟩
theorem lw_p6 : lw_okq (⟨"RookHusting$Reader", "readHedge", "()V"⟩, 4) := ⟨⟨by decide +kernel, by decide +kernel⟩, List.mem_of_getElem? (i := 60) (by decide +kernel), List.mem_of_getElem? (i := 574) (by decide +kernel), List.mem_of_getElem? (i := 575) (by decide +kernel)⟩
theorem lw_p7 : lw_okq (⟨"RookHusting$Reader", "readMan", "()V"⟩, 4) := ⟨⟨by decide +kernel, by decide +kernel⟩, List.mem_of_getElem? (i := 60) (by decide +kernel), List.mem_of_getElem? (i := 583) (by decide +kernel), List.mem_of_getElem? (i := 584) (by decide +kernel)⟩
theorem lw_p8 : lw_okq (⟨"RookHusting$Reader", "readVoter", "()V"⟩, 4) := ⟨⟨by decide +kernel, by decide +kernel⟩, List.mem_of_getElem? (i := 60) (by decide +kernel), List.mem_of_getElem? (i := 594) (by decide +kernel), List.mem_of_getElem? (i := 595) (by decide +kernel)⟩
theorem lw_p9 : lw_okq (⟨"RookHusting$Reader", "takeSign", "()V"⟩, 4) := ⟨⟨by decide +kernel, by decide +kernel⟩, List.mem_of_getElem? (i := 60) (by decide +kernel), List.mem_of_getElem? (i := 607) (by decide +kernel), List.mem_of_getElem? (i := 608) (by decide +kernel)⟩
theorem lw_p10 : lw_okq (⟨"RookHusting", "forget", "()V"⟩, 16) := ⟨⟨by decide +kernel, by decide +kernel⟩, List.mem_of_getElem? (i := 22) (by decide +kernel), List.mem_of_getElem? (i := 618) (by decide +kernel), List.mem_of_getElem? (i := 619) (by decide +kernel)⟩
theorem lw_p11 : lw_okq (⟨"RookHusting", "isField", "(I)Z"⟩, 16) := ⟨⟨by decide +kernel, by decide +kernel⟩, List.mem_of_getElem? (i := 22) (by decide +kernel), List.mem_of_getElem? (i := 630) (by decide +kernel), List.mem_of_getElem? (i := 631) (by decide +kernel)⟩
theorem lw_p12 : lw_okq (⟨"RookHusting", "isMan", "(I)Z"⟩, 16) := ⟨⟨by decide +kernel, by decide +kernel⟩, List.mem_of_getElem? (i := 22) (by decide +kernel), List.mem_of_getElem? (i := 645) (by decide +kernel), List.mem_of_getElem? (i := 646) (by decide +kernel)⟩
theorem lw_p13 : lw_okq (⟨"RookHusting", "isVoter", "(I)Z"⟩, 16) := ⟨⟨by decide +kernel, by decide +kernel⟩, List.mem_of_getElem? (i := 22) (by decide +kernel), List.mem_of_getElem? (i := 653) (by decide +kernel), List.mem_of_getElem? (i := 654) (by decide +kernel)⟩
theorem lw_p14 : lw_okq (⟨"RookHusting", "isSet", "(I)Z"⟩, 16) := ⟨⟨by decide +kernel, by decide +kernel⟩, List.mem_of_getElem? (i := 22) (by decide +kernel), List.mem_of_getElem? (i := 665) (by decide +kernel), List.mem_of_getElem? (i := 666) (by decide +kernel)⟩
theorem lw_p15 : lw_okq (⟨"RookHusting", "isTold", "()Z"⟩, 16) := ⟨⟨by decide +kernel, by decide +kernel⟩, List.mem_of_getElem? (i := 22) (by decide +kernel), List.mem_of_getElem? (i := 669) (by decide +kernel), List.mem_of_getElem? (i := 670) (by decide +kernel)⟩
def lw_privs_1 : List (MethodName × Nat) := [(⟨"RookHusting$Reader", "readHead", "()V"⟩, 4), (⟨"RookHusting$Reader", "takeWord", "(Ljava/lang/String;)V"⟩, 4), (⟨"RookHusting$Reader", "blame", "(I)V"⟩, 4), (⟨"RookHusting$Reader", "takeNamed", "(Ljava/lang/String;II)I"⟩, 4), (⟨"RookHusting$Reader", "takeNumber", "(III)I"⟩, 4), (⟨"RookHusting$Reader", "readField", "()V"⟩, 4), (⟨"RookHusting$Reader", "readHedge", "()V"⟩, 4), (⟨"RookHusting$Reader", "readMan", "()V"⟩, 4), (⟨"RookHusting$Reader", "readVoter", "()V"⟩, 4), (⟨"RookHusting$Reader", "takeSign", "()V"⟩, 4), (⟨"RookHusting", "forget", "()V"⟩, 16), (⟨"RookHusting", "isField", "(I)Z"⟩, 16), (⟨"RookHusting", "isMan", "(I)Z"⟩, 16), (⟨"RookHusting", "isVoter", "(I)Z"⟩, 16), (⟨"RookHusting", "isSet", "(I)Z"⟩, 16), (⟨"RookHusting", "isTold", "()Z"⟩, 16)]
theorem lw_r1 : ∀ q ∈ lw_privs_1, lw_okq q := List.forall_mem_cons.mpr ⟨lw_p0, List.forall_mem_cons.mpr ⟨lw_p1, List.forall_mem_cons.mpr ⟨lw_p2, List.forall_mem_cons.mpr ⟨lw_p3, List.forall_mem_cons.mpr ⟨lw_p4, List.forall_mem_cons.mpr ⟨lw_p5, List.forall_mem_cons.mpr ⟨lw_p6, List.forall_mem_cons.mpr ⟨lw_p7, List.forall_mem_cons.mpr ⟨lw_p8, List.forall_mem_cons.mpr ⟨lw_p9, List.forall_mem_cons.mpr ⟨lw_p10, List.forall_mem_cons.mpr ⟨lw_p11, List.forall_mem_cons.mpr ⟨lw_p12, List.forall_mem_cons.mpr ⟨lw_p13, List.forall_mem_cons.mpr ⟨lw_p14, List.forall_mem_cons.mpr ⟨lw_p15, fun _ h => absurd h List.not_mem_nil⟩⟩⟩⟩⟩⟩⟩⟩⟩⟩⟩⟩⟩⟩⟩⟩
theorem lw_p16 : lw_okq (⟨"RookHusting$Election", "lastOfFewest", "([III)I"⟩, 2) := ⟨⟨by decide +kernel, by decide +kernel⟩, List.mem_of_getElem? (i := 239) (by decide +kernel), List.mem_of_getElem? (i := 695) (by decide +kernel), List.mem_of_getElem? (i := 696) (by decide +kernel)⟩
theorem lw_p17 : lw_okq (⟨"RookHusting$Election", "firstOfMost", "([IIII)I"⟩, 2) := ⟨⟨by decide +kernel, by decide +kernel⟩, List.mem_of_getElem? (i := 239) (by decide +kernel), List.mem_of_getElem? (i := 702) (by decide +kernel), List.mem_of_getElem? (i := 703) (by decide +kernel)⟩
theorem lw_p18 : lw_okq (⟨"RookHusting$Election", "allMen", "()I"⟩, 2) := ⟨⟨by decide +kernel, by decide +kernel⟩, List.mem_of_getElem? (i := 239) (by decide +kernel), List.mem_of_getElem? (i := 714) (by decide +kernel), List.mem_of_getElem? (i := 715) (by decide +kernel)⟩
theorem lw_p19 : lw_okq (⟨"RookHusting", "settle", "()V"⟩, 16) := ⟨⟨by decide +kernel, by decide +kernel⟩, List.mem_of_getElem? (i := 22) (by decide +kernel), List.mem_of_getElem? (i := 723) (by decide +kernel), List.mem_of_getElem? (i := 724) (by decide +kernel)⟩
theorem lw_p20 : lw_okq (⟨"RookHusting$Harvest", "frighten", "(LRookHusting$Hundred;LRookHusting$Scene;I)V"⟩, 9) := ⟨⟨by decide +kernel, by decide +kernel⟩, List.mem_of_getElem? (i := 281) (by decide +kernel), List.mem_of_getElem? (i := 748) (by decide +kernel), List.mem_of_getElem? (i := 749) (by decide +kernel)⟩
theorem lw_p21 : lw_okq (⟨"RookHusting$Harvest", "beginNextDay", "(I)V"⟩, 9) := ⟨⟨by decide +kernel, by decide +kernel⟩, List.mem_of_getElem? (i := 281) (by decide +kernel), List.mem_of_getElem? (i := 756) (by decide +kernel), List.mem_of_getElem? (i := 757) (by decide +kernel)⟩
theorem lw_p22 : lw_okq (⟨"RookHusting$Harvest", "eatAndFly", "(LRookHusting$Scene;I)V"⟩, 9) := ⟨⟨by decide +kernel, by decide +kernel⟩, List.mem_of_getElem? (i := 281) (by decide +kernel), List.mem_of_getElem? (i := 760) (by decide +kernel), List.mem_of_getElem? (i := 761) (by decide +kernel)⟩
theorem lw_p23 : lw_okq (⟨"RookHusting$Harvest", "leastFeared", "(II)I"⟩, 9) := ⟨⟨by decide +kernel, by decide +kernel⟩, List.mem_of_getElem? (i := 281) (by decide +kernel), List.mem_of_getElem? (i := 765) (by decide +kernel), List.mem_of_getElem? (i := 766) (by decide +kernel)⟩
theorem lw_p24 : lw_okq (⟨"RookHusting$Election", "isWantedMore", "(III)Z"⟩, 2) := ⟨⟨by decide +kernel, by decide +kernel⟩, List.mem_of_getElem? (i := 239) (by decide +kernel), List.mem_of_getElem? (i := 782) (by decide +kernel), List.mem_of_getElem? (i := 783) (by decide +kernel)⟩
theorem lw_p25 : lw_okq (⟨"RookHusting$Election", "isOver", "(II)Z"⟩, 2) := ⟨⟨by decide +kernel, by decide +kernel⟩, List.mem_of_getElem? (i := 239) (by decide +kernel), List.mem_of_getElem? (i := 794) (by decide +kernel), List.mem_of_getElem? (i := 795) (by decide +kernel)⟩
theorem lw_p26 : lw_okq (⟨"RookHusting$Election", "isRing", "(III)Z"⟩, 2) := ⟨⟨by decide +kernel, by decide +kernel⟩, List.mem_of_getElem? (i := 239) (by decide +kernel), List.mem_of_getElem? (i := 807) (by decide +kernel), List.mem_of_getElem? (i := 808) (by decide +kernel)⟩
theorem lw_p27 : lw_okq (⟨"RookHusting$Election", "hatsOf", "(I)I"⟩, 2) := ⟨⟨by decide +kernel, by decide +kernel⟩, List.mem_of_getElem? (i := 239) (by decide +kernel), List.mem_of_getElem? (i := 819) (by decide +kernel), List.mem_of_getElem? (i := 820) (by decide +kernel)⟩
theorem lw_p28 : lw_okq (⟨"RookHusting$Election", "winnerOfAll", "(I)I"⟩, 2) := ⟨⟨by decide +kernel, by decide +kernel⟩, List.mem_of_getElem? (i := 239) (by decide +kernel), List.mem_of_getElem? (i := 823) (by decide +kernel), List.mem_of_getElem? (i := 824) (by decide +kernel)⟩
theorem lw_p29 : lw_okq (⟨"RookHusting", "learnPlain", "()V"⟩, 16) := ⟨⟨by decide +kernel, by decide +kernel⟩, List.mem_of_getElem? (i := 22) (by decide +kernel), List.mem_of_getElem? (i := 831) (by decide +kernel), List.mem_of_getElem? (i := 832) (by decide +kernel)⟩
theorem lw_p30 : lw_okq (⟨"RookHusting$Election", "gainsBehind", "(IIII)Z"⟩, 2) := ⟨⟨by decide +kernel, by decide +kernel⟩, List.mem_of_getElem? (i := 239) (by decide +kernel), List.mem_of_getElem? (i := 840) (by decide +kernel), List.mem_of_getElem? (i := 841) (by decide +kernel)⟩
theorem lw_p31 : lw_okq (⟨"RookHusting", "isDay", "(I)Z"⟩, 16) := ⟨⟨by decide +kernel, by decide +kernel⟩, List.mem_of_getElem? (i := 22) (by decide +kernel), List.mem_of_getElem? (i := 893) (by decide +kernel), List.mem_of_getElem? (i := 894) (by decide +kernel)⟩
def lw_privs_2 : List (MethodName × Nat) := [(⟨"RookHusting$Election", "lastOfFewest", "([III)I"⟩, 2), (⟨"RookHusting$Election", "firstOfMost", "([IIII)I"⟩, 2), (⟨"RookHusting$Election", "allMen", "()I"⟩, 2), (⟨"RookHusting", "settle", "()V"⟩, 16), (⟨"RookHusting$Harvest", "frighten", "(LRookHusting$Hundred;LRookHusting$Scene;I)V"⟩, 9), (⟨"RookHusting$Harvest", "beginNextDay", "(I)V"⟩, 9), (⟨"RookHusting$Harvest", "eatAndFly", "(LRookHusting$Scene;I)V"⟩, 9), (⟨"RookHusting$Harvest", "leastFeared", "(II)I"⟩, 9), (⟨"RookHusting$Election", "isWantedMore", "(III)Z"⟩, 2), (⟨"RookHusting$Election", "isOver", "(II)Z"⟩, 2), (⟨"RookHusting$Election", "isRing", "(III)Z"⟩, 2), (⟨"RookHusting$Election", "hatsOf", "(I)I"⟩, 2), (⟨"RookHusting$Election", "winnerOfAll", "(I)I"⟩, 2), (⟨"RookHusting", "learnPlain", "()V"⟩, 16), (⟨"RookHusting$Election", "gainsBehind", "(IIII)Z"⟩, 2), (⟨"RookHusting", "isDay", "(I)Z"⟩, 16)]
theorem lw_r2 : ∀ q ∈ lw_privs_2, lw_okq q := List.forall_mem_cons.mpr ⟨lw_p16, List.forall_mem_cons.mpr ⟨lw_p17, List.forall_mem_cons.mpr ⟨lw_p18, List.forall_mem_cons.mpr ⟨lw_p19, List.forall_mem_cons.mpr ⟨lw_p20, List.forall_mem_cons.mpr ⟨lw_p21, List.forall_mem_cons.mpr ⟨lw_p22, List.forall_mem_cons.mpr ⟨lw_p23, List.forall_mem_cons.mpr ⟨lw_p24, List.forall_mem_cons.mpr ⟨lw_p25, List.forall_mem_cons.mpr ⟨lw_p26, List.forall_mem_cons.mpr ⟨lw_p27, List.forall_mem_cons.mpr ⟨lw_p28, List.forall_mem_cons.mpr ⟨lw_p29, List.forall_mem_cons.mpr ⟨lw_p30, List.forall_mem_cons.mpr ⟨lw_p31, fun _ h => absurd h List.not_mem_nil⟩⟩⟩⟩⟩⟩⟩⟩⟩⟩⟩⟩⟩⟩⟩⟩
theorem lw_p32 : lw_okq (⟨"RookHusting", "cellNow", "([III)I"⟩, 16) := ⟨⟨by decide +kernel, by decide +kernel⟩, List.mem_of_getElem? (i := 22) (by decide +kernel), List.mem_of_getElem? (i := 897) (by decide +kernel), List.mem_of_getElem? (i := 898) (by decide +kernel)⟩
theorem lw_p33 : lw_okq (⟨"RookHusting", "isEatingDay", "(I)Z"⟩, 16) := ⟨⟨by decide +kernel, by decide +kernel⟩, List.mem_of_getElem? (i := 22) (by decide +kernel), List.mem_of_getElem? (i := 913) (by decide +kernel), List.mem_of_getElem? (i := 914) (by decide +kernel)⟩
theorem lw_p34 : lw_okq (⟨"RookHusting", "sumNow", "([II)I"⟩, 16) := ⟨⟨by decide +kernel, by decide +kernel⟩, List.mem_of_getElem? (i := 22) (by decide +kernel), List.mem_of_getElem? (i := 925) (by decide +kernel), List.mem_of_getElem? (i := 926) (by decide +kernel)⟩
theorem lw_p35 : lw_okq (⟨"RookHusting", "mostNow", "([II)I"⟩, 16) := ⟨⟨by decide +kernel, by decide +kernel⟩, List.mem_of_getElem? (i := 22) (by decide +kernel), List.mem_of_getElem? (i := 937) (by decide +kernel), List.mem_of_getElem? (i := 938) (by decide +kernel)⟩
theorem lw_p36 : lw_okq (⟨"RookHusting", "firstZeroNow", "([II)I"⟩, 16) := ⟨⟨by decide +kernel, by decide +kernel⟩, List.mem_of_getElem? (i := 22) (by decide +kernel), List.mem_of_getElem? (i := 953) (by decide +kernel), List.mem_of_getElem? (i := 954) (by decide +kernel)⟩
theorem lw_p37 : lw_okq (⟨"RookHusting$PutSearch", "fillFrom", "(II)V"⟩, 8) := ⟨⟨by decide +kernel, by decide +kernel⟩, List.mem_of_getElem? (i := 322) (by decide +kernel), List.mem_of_getElem? (i := 1026) (by decide +kernel), List.mem_of_getElem? (i := 1027) (by decide +kernel)⟩
theorem lw_p38 : lw_okq (⟨"RookHusting$PutSearch", "weighRow", "(I)V"⟩, 8) := ⟨⟨by decide +kernel, by decide +kernel⟩, List.mem_of_getElem? (i := 322) (by decide +kernel), List.mem_of_getElem? (i := 1031) (by decide +kernel), List.mem_of_getElem? (i := 1032) (by decide +kernel)⟩
theorem lw_p39 : lw_okq (⟨"RookHusting", "leftByLaw", "(I)I"⟩, 16) := ⟨⟨by decide +kernel, by decide +kernel⟩, List.mem_of_getElem? (i := 22) (by decide +kernel), List.mem_of_getElem? (i := 1056) (by decide +kernel), List.mem_of_getElem? (i := 1057) (by decide +kernel)⟩
theorem lw_p40 : lw_okq (⟨"RookHusting", "leftOnTrial", "()I"⟩, 16) := ⟨⟨by decide +kernel, by decide +kernel⟩, List.mem_of_getElem? (i := 22) (by decide +kernel), List.mem_of_getElem? (i := 1060) (by decide +kernel), List.mem_of_getElem? (i := 1061) (by decide +kernel)⟩
theorem lw_p41 : lw_okq (⟨"RookHusting", "wrongSeen", "(II)I"⟩, 16) := ⟨⟨by decide +kernel, by decide +kernel⟩, List.mem_of_getElem? (i := 22) (by decide +kernel), List.mem_of_getElem? (i := 1081) (by decide +kernel), List.mem_of_getElem? (i := 1082) (by decide +kernel)⟩
theorem lw_p42 : lw_okq (⟨"RookHusting", "guessAll", "(II)V"⟩, 16) := ⟨⟨by decide +kernel, by decide +kernel⟩, List.mem_of_getElem? (i := 22) (by decide +kernel), List.mem_of_getElem? (i := 1099) (by decide +kernel), List.mem_of_getElem? (i := 1100) (by decide +kernel)⟩
theorem lw_p43 : lw_okq (⟨"RookHusting", "isAsSeen", "(I)Z"⟩, 16) := ⟨⟨by decide +kernel, by decide +kernel⟩, List.mem_of_getElem? (i := 22) (by decide +kernel), List.mem_of_getElem? (i := 1104) (by decide +kernel), List.mem_of_getElem? (i := 1105) (by decide +kernel)⟩
theorem lw_p44 : lw_okq (⟨"RookHusting$Guesses", "mostAlike", "(I)I"⟩, 4) := ⟨⟨by decide +kernel, by decide +kernel⟩, List.mem_of_getElem? (i := 358) (by decide +kernel), List.mem_of_getElem? (i := 1122) (by decide +kernel), List.mem_of_getElem? (i := 1123) (by decide +kernel)⟩
theorem lw_p45 : lw_okq (⟨"RookHusting$Guesses", "countAlike", "(II)I"⟩, 4) := ⟨⟨by decide +kernel, by decide +kernel⟩, List.mem_of_getElem? (i := 358) (by decide +kernel), List.mem_of_getElem? (i := 1127) (by decide +kernel), List.mem_of_getElem? (i := 1128) (by decide +kernel)⟩
theorem lw_p46 : lw_okq (⟨"RookHusting", "gainOf", "(IIII)I"⟩, 16) := ⟨⟨by decide +kernel, by decide +kernel⟩, List.mem_of_getElem? (i := 22) (by decide +kernel), List.mem_of_getElem? (i := 1140) (by decide +kernel), List.mem_of_getElem? (i := 1141) (by decide +kernel)⟩
theorem lw_p47 : lw_okq (⟨"RookHusting", "isChanceDay", "(I)Z"⟩, 16) := ⟨⟨by decide +kernel, by decide +kernel⟩, List.mem_of_getElem? (i := 22) (by decide +kernel), List.mem_of_getElem? (i := 1152) (by decide +kernel), List.mem_of_getElem? (i := 1153) (by decide +kernel)⟩
def lw_privs_3 : List (MethodName × Nat) := [(⟨"RookHusting", "cellNow", "([III)I"⟩, 16), (⟨"RookHusting", "isEatingDay", "(I)Z"⟩, 16), (⟨"RookHusting", "sumNow", "([II)I"⟩, 16), (⟨"RookHusting", "mostNow", "([II)I"⟩, 16), (⟨"RookHusting", "firstZeroNow", "([II)I"⟩, 16), (⟨"RookHusting$PutSearch", "fillFrom", "(II)V"⟩, 8), (⟨"RookHusting$PutSearch", "weighRow", "(I)V"⟩, 8), (⟨"RookHusting", "leftByLaw", "(I)I"⟩, 16), (⟨"RookHusting", "leftOnTrial", "()I"⟩, 16), (⟨"RookHusting", "wrongSeen", "(II)I"⟩, 16), (⟨"RookHusting", "guessAll", "(II)V"⟩, 16), (⟨"RookHusting", "isAsSeen", "(I)Z"⟩, 16), (⟨"RookHusting$Guesses", "mostAlike", "(I)I"⟩, 4), (⟨"RookHusting$Guesses", "countAlike", "(II)I"⟩, 4), (⟨"RookHusting", "gainOf", "(IIII)I"⟩, 16), (⟨"RookHusting", "isChanceDay", "(I)Z"⟩, 16)]
theorem lw_r3 : ∀ q ∈ lw_privs_3, lw_okq q := List.forall_mem_cons.mpr ⟨lw_p32, List.forall_mem_cons.mpr ⟨lw_p33, List.forall_mem_cons.mpr ⟨lw_p34, List.forall_mem_cons.mpr ⟨lw_p35, List.forall_mem_cons.mpr ⟨lw_p36, List.forall_mem_cons.mpr ⟨lw_p37, List.forall_mem_cons.mpr ⟨lw_p38, List.forall_mem_cons.mpr ⟨lw_p39, List.forall_mem_cons.mpr ⟨lw_p40, List.forall_mem_cons.mpr ⟨lw_p41, List.forall_mem_cons.mpr ⟨lw_p42, List.forall_mem_cons.mpr ⟨lw_p43, List.forall_mem_cons.mpr ⟨lw_p44, List.forall_mem_cons.mpr ⟨lw_p45, List.forall_mem_cons.mpr ⟨lw_p46, List.forall_mem_cons.mpr ⟨lw_p47, fun _ h => absurd h List.not_mem_nil⟩⟩⟩⟩⟩⟩⟩⟩⟩⟩⟩⟩⟩⟩⟩⟩
theorem lw_p48 : lw_okq (⟨"RookHusting", "windWeight", "(II)J"⟩, 16) := ⟨⟨by decide +kernel, by decide +kernel⟩, List.mem_of_getElem? (i := 22) (by decide +kernel), List.mem_of_getElem? (i := 1157) (by decide +kernel), List.mem_of_getElem? (i := 1158) (by decide +kernel)⟩
theorem lw_p49 : lw_okq (⟨"RookHusting", "drawWind", "(J)I"⟩, 16) := ⟨⟨by decide +kernel, by decide +kernel⟩, List.mem_of_getElem? (i := 22) (by decide +kernel), List.mem_of_getElem? (i := 1177) (by decide +kernel), List.mem_of_getElem? (i := 1178) (by decide +kernel)⟩
theorem lw_p50 : lw_okq (⟨"RookHusting", "drawHarvest", "(J)V"⟩, 16) := ⟨⟨by decide +kernel, by decide +kernel⟩, List.mem_of_getElem? (i := 22) (by decide +kernel), List.mem_of_getElem? (i := 1185) (by decide +kernel), List.mem_of_getElem? (i := 1186) (by decide +kernel)⟩
theorem lw_p51 : lw_okq (⟨"RookHustingModel", "advance", "()V"⟩, 45) := ⟨⟨by decide +kernel, by decide +kernel⟩, List.mem_of_getElem? (i := 1272) (by decide +kernel), List.mem_of_getElem? (i := 1442) (by decide +kernel), List.mem_of_getElem? (i := 1443) (by decide +kernel)⟩
theorem lw_p52 : lw_okq (⟨"RookHustingModel", "see", "(I)I"⟩, 45) := ⟨⟨by decide +kernel, by decide +kernel⟩, List.mem_of_getElem? (i := 1272) (by decide +kernel), List.mem_of_getElem? (i := 1446) (by decide +kernel), List.mem_of_getElem? (i := 1447) (by decide +kernel)⟩
theorem lw_p53 : lw_okq (⟨"RookHustingModel", "good", "()Z"⟩, 45) := ⟨⟨by decide +kernel, by decide +kernel⟩, List.mem_of_getElem? (i := 1272) (by decide +kernel), List.mem_of_getElem? (i := 1456) (by decide +kernel), List.mem_of_getElem? (i := 1457) (by decide +kernel)⟩
theorem lw_p54 : lw_okq (⟨"RookHustingModel", "readLine", "()V"⟩, 45) := ⟨⟨by decide +kernel, by decide +kernel⟩, List.mem_of_getElem? (i := 1272) (by decide +kernel), List.mem_of_getElem? (i := 1460) (by decide +kernel), List.mem_of_getElem? (i := 1461) (by decide +kernel)⟩
theorem lw_p55 : lw_okq (⟨"RookHustingModel", "readFirst", "()V"⟩, 45) := ⟨⟨by decide +kernel, by decide +kernel⟩, List.mem_of_getElem? (i := 1272) (by decide +kernel), List.mem_of_getElem? (i := 1464) (by decide +kernel), List.mem_of_getElem? (i := 1465) (by decide +kernel)⟩
theorem lw_p56 : lw_okq (⟨"RookHustingModel", "expects", "(Ljava/lang/String;)V"⟩, 45) := ⟨⟨by decide +kernel, by decide +kernel⟩, List.mem_of_getElem? (i := 1272) (by decide +kernel), List.mem_of_getElem? (i := 1469) (by decide +kernel), List.mem_of_getElem? (i := 1470) (by decide +kernel)⟩
theorem lw_p57 : lw_okq (⟨"RookHustingModel", "takes", "(Ljava/lang/String;)Z"⟩, 45) := ⟨⟨by decide +kernel, by decide +kernel⟩, List.mem_of_getElem? (i := 1272) (by decide +kernel), List.mem_of_getElem? (i := 1473) (by decide +kernel), List.mem_of_getElem? (i := 1474) (by decide +kernel)⟩
theorem lw_p58 : lw_okq (⟨"RookHustingModel", "is", "(Ljava/lang/String;)Z"⟩, 45) := ⟨⟨by decide +kernel, by decide +kernel⟩, List.mem_of_getElem? (i := 1272) (by decide +kernel), List.mem_of_getElem? (i := 1477) (by decide +kernel), List.mem_of_getElem? (i := 1478) (by decide +kernel)⟩
theorem lw_p59 : lw_okq (⟨"RookHustingModel", "errs", "(I)V"⟩, 45) := ⟨⟨by decide +kernel, by decide +kernel⟩, List.mem_of_getElem? (i := 1272) (by decide +kernel), List.mem_of_getElem? (i := 1483) (by decide +kernel), List.mem_of_getElem? (i := 1484) (by decide +kernel)⟩
theorem lw_p60 : lw_okq (⟨"RookHustingModel", "told", "(Ljava/lang/String;II)I"⟩, 45) := ⟨⟨by decide +kernel, by decide +kernel⟩, List.mem_of_getElem? (i := 1272) (by decide +kernel), List.mem_of_getElem? (i := 1488) (by decide +kernel), List.mem_of_getElem? (i := 1489) (by decide +kernel)⟩
theorem lw_p61 : lw_okq (⟨"RookHustingModel", "number", "(II)I"⟩, 45) := ⟨⟨by decide +kernel, by decide +kernel⟩, List.mem_of_getElem? (i := 1272) (by decide +kernel), List.mem_of_getElem? (i := 1492) (by decide +kernel), List.mem_of_getElem? (i := 1493) (by decide +kernel)⟩
theorem lw_p62 : lw_okq (⟨"RookHustingModel", "readNext", "()V"⟩, 45) := ⟨⟨by decide +kernel, by decide +kernel⟩, List.mem_of_getElem? (i := 1272) (by decide +kernel), List.mem_of_getElem? (i := 1498) (by decide +kernel), List.mem_of_getElem? (i := 1499) (by decide +kernel)⟩
theorem lw_p63 : lw_okq (⟨"RookHustingModel", "isFull", "()Z"⟩, 45) := ⟨⟨by decide +kernel, by decide +kernel⟩, List.mem_of_getElem? (i := 1272) (by decide +kernel), List.mem_of_getElem? (i := 1506) (by decide +kernel), List.mem_of_getElem? (i := 1507) (by decide +kernel)⟩
def lw_privs_4 : List (MethodName × Nat) := [(⟨"RookHusting", "windWeight", "(II)J"⟩, 16), (⟨"RookHusting", "drawWind", "(J)I"⟩, 16), (⟨"RookHusting", "drawHarvest", "(J)V"⟩, 16), (⟨"RookHustingModel", "advance", "()V"⟩, 45), (⟨"RookHustingModel", "see", "(I)I"⟩, 45), (⟨"RookHustingModel", "good", "()Z"⟩, 45), (⟨"RookHustingModel", "readLine", "()V"⟩, 45), (⟨"RookHustingModel", "readFirst", "()V"⟩, 45), (⟨"RookHustingModel", "expects", "(Ljava/lang/String;)V"⟩, 45), (⟨"RookHustingModel", "takes", "(Ljava/lang/String;)Z"⟩, 45), (⟨"RookHustingModel", "is", "(Ljava/lang/String;)Z"⟩, 45), (⟨"RookHustingModel", "errs", "(I)V"⟩, 45), (⟨"RookHustingModel", "told", "(Ljava/lang/String;II)I"⟩, 45), (⟨"RookHustingModel", "number", "(II)I"⟩, 45), (⟨"RookHustingModel", "readNext", "()V"⟩, 45), (⟨"RookHustingModel", "isFull", "()Z"⟩, 45)]
theorem lw_r4 : ∀ q ∈ lw_privs_4, lw_okq q := List.forall_mem_cons.mpr ⟨lw_p48, List.forall_mem_cons.mpr ⟨lw_p49, List.forall_mem_cons.mpr ⟨lw_p50, List.forall_mem_cons.mpr ⟨lw_p51, List.forall_mem_cons.mpr ⟨lw_p52, List.forall_mem_cons.mpr ⟨lw_p53, List.forall_mem_cons.mpr ⟨lw_p54, List.forall_mem_cons.mpr ⟨lw_p55, List.forall_mem_cons.mpr ⟨lw_p56, List.forall_mem_cons.mpr ⟨lw_p57, List.forall_mem_cons.mpr ⟨lw_p58, List.forall_mem_cons.mpr ⟨lw_p59, List.forall_mem_cons.mpr ⟨lw_p60, List.forall_mem_cons.mpr ⟨lw_p61, List.forall_mem_cons.mpr ⟨lw_p62, List.forall_mem_cons.mpr ⟨lw_p63, fun _ h => absurd h List.not_mem_nil⟩⟩⟩⟩⟩⟩⟩⟩⟩⟩⟩⟩⟩⟩⟩⟩
theorem lw_p64 : lw_okq (⟨"RookHustingModel", "readHedge", "()V"⟩, 45) := ⟨⟨by decide +kernel, by decide +kernel⟩, List.mem_of_getElem? (i := 1272) (by decide +kernel), List.mem_of_getElem? (i := 1512) (by decide +kernel), List.mem_of_getElem? (i := 1513) (by decide +kernel)⟩
theorem lw_p65 : lw_okq (⟨"RookHustingModel", "readVoter", "()V"⟩, 45) := ⟨⟨by decide +kernel, by decide +kernel⟩, List.mem_of_getElem? (i := 1272) (by decide +kernel), List.mem_of_getElem? (i := 1518) (by decide +kernel), List.mem_of_getElem? (i := 1519) (by decide +kernel)⟩
theorem lw_p66 : lw_okq (⟨"RookHustingModel", "isField", "(J)Z"⟩, 45) := ⟨⟨by decide +kernel, by decide +kernel⟩, List.mem_of_getElem? (i := 1272) (by decide +kernel), List.mem_of_getElem? (i := 1530) (by decide +kernel), List.mem_of_getElem? (i := 1531) (by decide +kernel)⟩
theorem lw_p67 : lw_okq (⟨"RookHustingModel", "fields", "()I"⟩, 45) := ⟨⟨by decide +kernel, by decide +kernel⟩, List.mem_of_getElem? (i := 1272) (by decide +kernel), List.mem_of_getElem? (i := 1534) (by decide +kernel), List.mem_of_getElem? (i := 1535) (by decide +kernel)⟩
theorem lw_p68 : lw_okq (⟨"RookHustingModel", "isMan", "(I)Z"⟩, 45) := ⟨⟨by decide +kernel, by decide +kernel⟩, List.mem_of_getElem? (i := 1272) (by decide +kernel), List.mem_of_getElem? (i := 1542) (by decide +kernel), List.mem_of_getElem? (i := 1543) (by decide +kernel)⟩
theorem lw_p69 : lw_okq (⟨"RookHustingModel", "men", "()I"⟩, 45) := ⟨⟨by decide +kernel, by decide +kernel⟩, List.mem_of_getElem? (i := 1272) (by decide +kernel), List.mem_of_getElem? (i := 1546) (by decide +kernel), List.mem_of_getElem? (i := 1547) (by decide +kernel)⟩
theorem lw_p70 : lw_okq (⟨"RookHustingModel", "isVoter", "(I)Z"⟩, 45) := ⟨⟨by decide +kernel, by decide +kernel⟩, List.mem_of_getElem? (i := 1272) (by decide +kernel), List.mem_of_getElem? (i := 1554) (by decide +kernel), List.mem_of_getElem? (i := 1555) (by decide +kernel)⟩
theorem lw_p71 : lw_okq (⟨"RookHustingModel", "hatsOf", "(I)I"⟩, 45) := ⟨⟨by decide +kernel, by decide +kernel⟩, List.mem_of_getElem? (i := 1272) (by decide +kernel), List.mem_of_getElem? (i := 1558) (by decide +kernel), List.mem_of_getElem? (i := 1559) (by decide +kernel)⟩
theorem lw_p72 : lw_okq (⟨"RookHustingModel", "rowsAsTold", "()V"⟩, 45) := ⟨⟨by decide +kernel, by decide +kernel⟩, List.mem_of_getElem? (i := 1272) (by decide +kernel), List.mem_of_getElem? (i := 1566) (by decide +kernel), List.mem_of_getElem? (i := 1567) (by decide +kernel)⟩
theorem lw_p73 : lw_okq (⟨"RookHustingModel", "isSet", "(I)Z"⟩, 45) := ⟨⟨by decide +kernel, by decide +kernel⟩, List.mem_of_getElem? (i := 1272) (by decide +kernel), List.mem_of_getElem? (i := 1574) (by decide +kernel), List.mem_of_getElem? (i := 1575) (by decide +kernel)⟩
theorem lw_p74 : lw_okq (⟨"RookHustingModel", "isHundred", "()Z"⟩, 45) := ⟨⟨by decide +kernel, by decide +kernel⟩, List.mem_of_getElem? (i := 1272) (by decide +kernel), List.mem_of_getElem? (i := 1578) (by decide +kernel), List.mem_of_getElem? (i := 1579) (by decide +kernel)⟩
theorem lw_p75 : lw_okq (⟨"RookHustingModel", "allMen", "()I"⟩, 45) := ⟨⟨by decide +kernel, by decide +kernel⟩, List.mem_of_getElem? (i := 1272) (by decide +kernel), List.mem_of_getElem? (i := 1582) (by decide +kernel), List.mem_of_getElem? (i := 1583) (by decide +kernel)⟩
theorem lw_p76 : lw_okq (⟨"RookHustingModel", "votesOf", "(III)I"⟩, 45) := ⟨⟨by decide +kernel, by decide +kernel⟩, List.mem_of_getElem? (i := 1272) (by decide +kernel), List.mem_of_getElem? (i := 1587) (by decide +kernel), List.mem_of_getElem? (i := 1588) (by decide +kernel)⟩
theorem lw_p77 : lw_okq (⟨"RookHustingModel", "timesOf", "(IIII)I"⟩, 45) := ⟨⟨by decide +kernel, by decide +kernel⟩, List.mem_of_getElem? (i := 1272) (by decide +kernel), List.mem_of_getElem? (i := 1591) (by decide +kernel), List.mem_of_getElem? (i := 1592) (by decide +kernel)⟩
theorem lw_p78 : lw_okq (⟨"RookHustingModel", "electsOf", "(II)I"⟩, 45) := ⟨⟨by decide +kernel, by decide +kernel⟩, List.mem_of_getElem? (i := 1272) (by decide +kernel), List.mem_of_getElem? (i := 1602) (by decide +kernel), List.mem_of_getElem? (i := 1603) (by decide +kernel)⟩
theorem lw_p79 : lw_okq (⟨"RookHustingModel", "fewestOf", "(I)I"⟩, 45) := ⟨⟨by decide +kernel, by decide +kernel⟩, List.mem_of_getElem? (i := 1272) (by decide +kernel), List.mem_of_getElem? (i := 1606) (by decide +kernel), List.mem_of_getElem? (i := 1607) (by decide +kernel)⟩
def lw_privs_5 : List (MethodName × Nat) := [(⟨"RookHustingModel", "readHedge", "()V"⟩, 45), (⟨"RookHustingModel", "readVoter", "()V"⟩, 45), (⟨"RookHustingModel", "isField", "(J)Z"⟩, 45), (⟨"RookHustingModel", "fields", "()I"⟩, 45), (⟨"RookHustingModel", "isMan", "(I)Z"⟩, 45), (⟨"RookHustingModel", "men", "()I"⟩, 45), (⟨"RookHustingModel", "isVoter", "(I)Z"⟩, 45), (⟨"RookHustingModel", "hatsOf", "(I)I"⟩, 45), (⟨"RookHustingModel", "rowsAsTold", "()V"⟩, 45), (⟨"RookHustingModel", "isSet", "(I)Z"⟩, 45), (⟨"RookHustingModel", "isHundred", "()Z"⟩, 45), (⟨"RookHustingModel", "allMen", "()I"⟩, 45), (⟨"RookHustingModel", "votesOf", "(III)I"⟩, 45), (⟨"RookHustingModel", "timesOf", "(IIII)I"⟩, 45), (⟨"RookHustingModel", "electsOf", "(II)I"⟩, 45), (⟨"RookHustingModel", "fewestOf", "(I)I"⟩, 45)]
theorem lw_r5 : ∀ q ∈ lw_privs_5, lw_okq q := List.forall_mem_cons.mpr ⟨lw_p64, List.forall_mem_cons.mpr ⟨lw_p65, List.forall_mem_cons.mpr ⟨lw_p66, List.forall_mem_cons.mpr ⟨lw_p67, List.forall_mem_cons.mpr ⟨lw_p68, List.forall_mem_cons.mpr ⟨lw_p69, List.forall_mem_cons.mpr ⟨lw_p70, List.forall_mem_cons.mpr ⟨lw_p71, List.forall_mem_cons.mpr ⟨lw_p72, List.forall_mem_cons.mpr ⟨lw_p73, List.forall_mem_cons.mpr ⟨lw_p74, List.forall_mem_cons.mpr ⟨lw_p75, List.forall_mem_cons.mpr ⟨lw_p76, List.forall_mem_cons.mpr ⟨lw_p77, List.forall_mem_cons.mpr ⟨lw_p78, List.forall_mem_cons.mpr ⟨lw_p79, fun _ h => absurd h List.not_mem_nil⟩⟩⟩⟩⟩⟩⟩⟩⟩⟩⟩⟩⟩⟩⟩⟩
theorem lw_p80 : lw_okq (⟨"RookHustingModel", "mostOf", "(II)I"⟩, 45) := ⟨⟨by decide +kernel, by decide +kernel⟩, List.mem_of_getElem? (i := 1272) (by decide +kernel), List.mem_of_getElem? (i := 1610) (by decide +kernel), List.mem_of_getElem? (i := 1611) (by decide +kernel)⟩
theorem lw_p81 : lw_okq (⟨"RookHustingModel", "electAll", "(I)V"⟩, 45) := ⟨⟨by decide +kernel, by decide +kernel⟩, List.mem_of_getElem? (i := 1272) (by decide +kernel), List.mem_of_getElem? (i := 1618) (by decide +kernel), List.mem_of_getElem? (i := 1619) (by decide +kernel)⟩
theorem lw_p82 : lw_okq (⟨"RookHustingModel", "overOf", "(II)I"⟩, 45) := ⟨⟨by decide +kernel, by decide +kernel⟩, List.mem_of_getElem? (i := 1272) (by decide +kernel), List.mem_of_getElem? (i := 1626) (by decide +kernel), List.mem_of_getElem? (i := 1627) (by decide +kernel)⟩
theorem lw_p83 : lw_okq (⟨"RookHustingModel", "wantsMore", "(III)Z"⟩, 45) := ⟨⟨by decide +kernel, by decide +kernel⟩, List.mem_of_getElem? (i := 1272) (by decide +kernel), List.mem_of_getElem? (i := 1630) (by decide +kernel), List.mem_of_getElem? (i := 1631) (by decide +kernel)⟩
theorem lw_p84 : lw_okq (⟨"RookHustingModel", "isOver", "(II)Z"⟩, 45) := ⟨⟨by decide +kernel, by decide +kernel⟩, List.mem_of_getElem? (i := 1272) (by decide +kernel), List.mem_of_getElem? (i := 1638) (by decide +kernel), List.mem_of_getElem? (i := 1639) (by decide +kernel)⟩
theorem lw_p85 : lw_okq (⟨"RookHustingModel", "isRing", "(III)Z"⟩, 45) := ⟨⟨by decide +kernel, by decide +kernel⟩, List.mem_of_getElem? (i := 1272) (by decide +kernel), List.mem_of_getElem? (i := 1646) (by decide +kernel), List.mem_of_getElem? (i := 1647) (by decide +kernel)⟩
theorem lw_p86 : lw_okq (⟨"RookHustingModel", "hatsIn", "(I)I"⟩, 45) := ⟨⟨by decide +kernel, by decide +kernel⟩, List.mem_of_getElem? (i := 1272) (by decide +kernel), List.mem_of_getElem? (i := 1655) (by decide +kernel), List.mem_of_getElem? (i := 1656) (by decide +kernel)⟩
theorem lw_p87 : lw_okq (⟨"RookHustingModel", "gainsOf", "(I)Z"⟩, 45) := ⟨⟨by decide +kernel, by decide +kernel⟩, List.mem_of_getElem? (i := 1272) (by decide +kernel), List.mem_of_getElem? (i := 1663) (by decide +kernel), List.mem_of_getElem? (i := 1664) (by decide +kernel)⟩
theorem lw_p88 : lw_okq (⟨"RookHustingModel", "doesGain", "(IIII)Z"⟩, 45) := ⟨⟨by decide +kernel, by decide +kernel⟩, List.mem_of_getElem? (i := 1272) (by decide +kernel), List.mem_of_getElem? (i := 1667) (by decide +kernel), List.mem_of_getElem? (i := 1668) (by decide +kernel)⟩
theorem lw_p89 : lw_okq (⟨"RookHustingModel", "asItIs", "()V"⟩, 45) := ⟨⟨by decide +kernel, by decide +kernel⟩, List.mem_of_getElem? (i := 1272) (by decide +kernel), List.mem_of_getElem? (i := 1711) (by decide +kernel), List.mem_of_getElem? (i := 1712) (by decide +kernel)⟩
theorem lw_p90 : lw_okq (⟨"RookHustingModel", "asElected", "(I)V"⟩, 45) := ⟨⟨by decide +kernel, by decide +kernel⟩, List.mem_of_getElem? (i := 1272) (by decide +kernel), List.mem_of_getElem? (i := 1715) (by decide +kernel), List.mem_of_getElem? (i := 1716) (by decide +kernel)⟩
theorem lw_p91 : lw_okq (⟨"RookHustingModel", "speeches", "()V"⟩, 45) := ⟨⟨by decide +kernel, by decide +kernel⟩, List.mem_of_getElem? (i := 1272) (by decide +kernel), List.mem_of_getElem? (i := 1719) (by decide +kernel), List.mem_of_getElem? (i := 1720) (by decide +kernel)⟩
theorem lw_p92 : lw_okq (⟨"RookHustingModel", "putMan", "(II)V"⟩, 45) := ⟨⟨by decide +kernel, by decide +kernel⟩, List.mem_of_getElem? (i := 1272) (by decide +kernel), List.mem_of_getElem? (i := 1723) (by decide +kernel), List.mem_of_getElem? (i := 1724) (by decide +kernel)⟩
theorem lw_p93 : lw_okq (⟨"RookHustingModel", "hedgesOf", "(I)I"⟩, 45) := ⟨⟨by decide +kernel, by decide +kernel⟩, List.mem_of_getElem? (i := 1272) (by decide +kernel), List.mem_of_getElem? (i := 1739) (by decide +kernel), List.mem_of_getElem? (i := 1740) (by decide +kernel)⟩
theorem lw_p94 : lw_okq (⟨"RookHustingModel", "asksDay", "(I)Z"⟩, 45) := ⟨⟨by decide +kernel, by decide +kernel⟩, List.mem_of_getElem? (i := 1272) (by decide +kernel), List.mem_of_getElem? (i := 1747) (by decide +kernel), List.mem_of_getElem? (i := 1748) (by decide +kernel)⟩
theorem lw_p95 : lw_okq (⟨"RookHustingModel", "asksHundred", "()Z"⟩, 45) := ⟨⟨by decide +kernel, by decide +kernel⟩, List.mem_of_getElem? (i := 1272) (by decide +kernel), List.mem_of_getElem? (i := 1751) (by decide +kernel), List.mem_of_getElem? (i := 1752) (by decide +kernel)⟩
def lw_privs_6 : List (MethodName × Nat) := [(⟨"RookHustingModel", "mostOf", "(II)I"⟩, 45), (⟨"RookHustingModel", "electAll", "(I)V"⟩, 45), (⟨"RookHustingModel", "overOf", "(II)I"⟩, 45), (⟨"RookHustingModel", "wantsMore", "(III)Z"⟩, 45), (⟨"RookHustingModel", "isOver", "(II)Z"⟩, 45), (⟨"RookHustingModel", "isRing", "(III)Z"⟩, 45), (⟨"RookHustingModel", "hatsIn", "(I)I"⟩, 45), (⟨"RookHustingModel", "gainsOf", "(I)Z"⟩, 45), (⟨"RookHustingModel", "doesGain", "(IIII)Z"⟩, 45), (⟨"RookHustingModel", "asItIs", "()V"⟩, 45), (⟨"RookHustingModel", "asElected", "(I)V"⟩, 45), (⟨"RookHustingModel", "speeches", "()V"⟩, 45), (⟨"RookHustingModel", "putMan", "(II)V"⟩, 45), (⟨"RookHustingModel", "hedgesOf", "(I)I"⟩, 45), (⟨"RookHustingModel", "asksDay", "(I)Z"⟩, 45), (⟨"RookHustingModel", "asksHundred", "()Z"⟩, 45)]
theorem lw_r6 : ∀ q ∈ lw_privs_6, lw_okq q := List.forall_mem_cons.mpr ⟨lw_p80, List.forall_mem_cons.mpr ⟨lw_p81, List.forall_mem_cons.mpr ⟨lw_p82, List.forall_mem_cons.mpr ⟨lw_p83, List.forall_mem_cons.mpr ⟨lw_p84, List.forall_mem_cons.mpr ⟨lw_p85, List.forall_mem_cons.mpr ⟨lw_p86, List.forall_mem_cons.mpr ⟨lw_p87, List.forall_mem_cons.mpr ⟨lw_p88, List.forall_mem_cons.mpr ⟨lw_p89, List.forall_mem_cons.mpr ⟨lw_p90, List.forall_mem_cons.mpr ⟨lw_p91, List.forall_mem_cons.mpr ⟨lw_p92, List.forall_mem_cons.mpr ⟨lw_p93, List.forall_mem_cons.mpr ⟨lw_p94, List.forall_mem_cons.mpr ⟨lw_p95, fun _ h => absurd h List.not_mem_nil⟩⟩⟩⟩⟩⟩⟩⟩⟩⟩⟩⟩⟩⟩⟩⟩
theorem lw_p96 : lw_okq (⟨"RookHustingModel", "goAll", "()V"⟩, 45) := ⟨⟨by decide +kernel, by decide +kernel⟩, List.mem_of_getElem? (i := 1272) (by decide +kernel), List.mem_of_getElem? (i := 1755) (by decide +kernel), List.mem_of_getElem? (i := 1756) (by decide +kernel)⟩
theorem lw_p97 : lw_okq (⟨"RookHustingModel", "days", "()I"⟩, 45) := ⟨⟨by decide +kernel, by decide +kernel⟩, List.mem_of_getElem? (i := 1272) (by decide +kernel), List.mem_of_getElem? (i := 1759) (by decide +kernel), List.mem_of_getElem? (i := 1760) (by decide +kernel)⟩
theorem lw_p98 : lw_okq (⟨"RookHustingModel", "fearOf", "(II)I"⟩, 45) := ⟨⟨by decide +kernel, by decide +kernel⟩, List.mem_of_getElem? (i := 1272) (by decide +kernel), List.mem_of_getElem? (i := 1763) (by decide +kernel), List.mem_of_getElem? (i := 1764) (by decide +kernel)⟩
theorem lw_p99 : lw_okq (⟨"RookHustingModel", "goDay", "(I)V"⟩, 45) := ⟨⟨by decide +kernel, by decide +kernel⟩, List.mem_of_getElem? (i := 1272) (by decide +kernel), List.mem_of_getElem? (i := 1768) (by decide +kernel), List.mem_of_getElem? (i := 1769) (by decide +kernel)⟩
theorem lw_p100 : lw_okq (⟨"RookHustingModel", "flyTo", "(II)I"⟩, 45) := ⟨⟨by decide +kernel, by decide +kernel⟩, List.mem_of_getElem? (i := 1272) (by decide +kernel), List.mem_of_getElem? (i := 1772) (by decide +kernel), List.mem_of_getElem? (i := 1773) (by decide +kernel)⟩
theorem lw_p101 : lw_okq (⟨"RookHustingModel", "isDay", "(J)Z"⟩, 45) := ⟨⟨by decide +kernel, by decide +kernel⟩, List.mem_of_getElem? (i := 1272) (by decide +kernel), List.mem_of_getElem? (i := 1776) (by decide +kernel), List.mem_of_getElem? (i := 1777) (by decide +kernel)⟩
theorem lw_p102 : lw_okq (⟨"RookHustingModel", "asksAhead", "(I)Z"⟩, 45) := ⟨⟨by decide +kernel, by decide +kernel⟩, List.mem_of_getElem? (i := 1272) (by decide +kernel), List.mem_of_getElem? (i := 1792) (by decide +kernel), List.mem_of_getElem? (i := 1793) (by decide +kernel)⟩
theorem lw_p103 : lw_okq (⟨"RookHustingModel", "isAhead", "(J)Z"⟩, 45) := ⟨⟨by decide +kernel, by decide +kernel⟩, List.mem_of_getElem? (i := 1272) (by decide +kernel), List.mem_of_getElem? (i := 1796) (by decide +kernel), List.mem_of_getElem? (i := 1797) (by decide +kernel)⟩
theorem lw_p104 : lw_okq (⟨"RookHustingModel", "allCorn", "(I)I"⟩, 45) := ⟨⟨by decide +kernel, by decide +kernel⟩, List.mem_of_getElem? (i := 1272) (by decide +kernel), List.mem_of_getElem? (i := 1808) (by decide +kernel), List.mem_of_getElem? (i := 1809) (by decide +kernel)⟩
theorem lw_p105 : lw_okq (⟨"RookHustingModel", "asksField", "(I)Z"⟩, 45) := ⟨⟨by decide +kernel, by decide +kernel⟩, List.mem_of_getElem? (i := 1272) (by decide +kernel), List.mem_of_getElem? (i := 1820) (by decide +kernel), List.mem_of_getElem? (i := 1821) (by decide +kernel)⟩
theorem lw_p106 : lw_okq (⟨"RookHustingModel", "asksRows", "()Z"⟩, 45) := ⟨⟨by decide +kernel, by decide +kernel⟩, List.mem_of_getElem? (i := 1272) (by decide +kernel), List.mem_of_getElem? (i := 1868) (by decide +kernel), List.mem_of_getElem? (i := 1869) (by decide +kernel)⟩
theorem lw_p107 : lw_okq (⟨"RookHustingModel", "tryRow", "()V"⟩, 45) := ⟨⟨by decide +kernel, by decide +kernel⟩, List.mem_of_getElem? (i := 1272) (by decide +kernel), List.mem_of_getElem? (i := 1872) (by decide +kernel), List.mem_of_getElem? (i := 1873) (by decide +kernel)⟩
theorem lw_p108 : lw_okq (⟨"RookHustingModel", "menIn", "()I"⟩, 45) := ⟨⟨by decide +kernel, by decide +kernel⟩, List.mem_of_getElem? (i := 1272) (by decide +kernel), List.mem_of_getElem? (i := 1876) (by decide +kernel), List.mem_of_getElem? (i := 1877) (by decide +kernel)⟩
theorem lw_p109 : lw_okq (⟨"RookHustingModel", "allLast", "()I"⟩, 45) := ⟨⟨by decide +kernel, by decide +kernel⟩, List.mem_of_getElem? (i := 1272) (by decide +kernel), List.mem_of_getElem? (i := 1880) (by decide +kernel), List.mem_of_getElem? (i := 1881) (by decide +kernel)⟩
theorem lw_p110 : lw_okq (⟨"RookHustingModel", "nextRow", "()Z"⟩, 45) := ⟨⟨by decide +kernel, by decide +kernel⟩, List.mem_of_getElem? (i := 1272) (by decide +kernel), List.mem_of_getElem? (i := 1884) (by decide +kernel), List.mem_of_getElem? (i := 1885) (by decide +kernel)⟩
theorem lw_p111 : lw_okq (⟨"RookHustingModel", "leftBy", "(I)I"⟩, 45) := ⟨⟨by decide +kernel, by decide +kernel⟩, List.mem_of_getElem? (i := 1272) (by decide +kernel), List.mem_of_getElem? (i := 1904) (by decide +kernel), List.mem_of_getElem? (i := 1905) (by decide +kernel)⟩
def lw_privs_7 : List (MethodName × Nat) := [(⟨"RookHustingModel", "goAll", "()V"⟩, 45), (⟨"RookHustingModel", "days", "()I"⟩, 45), (⟨"RookHustingModel", "fearOf", "(II)I"⟩, 45), (⟨"RookHustingModel", "goDay", "(I)V"⟩, 45), (⟨"RookHustingModel", "flyTo", "(II)I"⟩, 45), (⟨"RookHustingModel", "isDay", "(J)Z"⟩, 45), (⟨"RookHustingModel", "asksAhead", "(I)Z"⟩, 45), (⟨"RookHustingModel", "isAhead", "(J)Z"⟩, 45), (⟨"RookHustingModel", "allCorn", "(I)I"⟩, 45), (⟨"RookHustingModel", "asksField", "(I)Z"⟩, 45), (⟨"RookHustingModel", "asksRows", "()Z"⟩, 45), (⟨"RookHustingModel", "tryRow", "()V"⟩, 45), (⟨"RookHustingModel", "menIn", "()I"⟩, 45), (⟨"RookHustingModel", "allLast", "()I"⟩, 45), (⟨"RookHustingModel", "nextRow", "()Z"⟩, 45), (⟨"RookHustingModel", "leftBy", "(I)I"⟩, 45)]
theorem lw_r7 : ∀ q ∈ lw_privs_7, lw_okq q := List.forall_mem_cons.mpr ⟨lw_p96, List.forall_mem_cons.mpr ⟨lw_p97, List.forall_mem_cons.mpr ⟨lw_p98, List.forall_mem_cons.mpr ⟨lw_p99, List.forall_mem_cons.mpr ⟨lw_p100, List.forall_mem_cons.mpr ⟨lw_p101, List.forall_mem_cons.mpr ⟨lw_p102, List.forall_mem_cons.mpr ⟨lw_p103, List.forall_mem_cons.mpr ⟨lw_p104, List.forall_mem_cons.mpr ⟨lw_p105, List.forall_mem_cons.mpr ⟨lw_p106, List.forall_mem_cons.mpr ⟨lw_p107, List.forall_mem_cons.mpr ⟨lw_p108, List.forall_mem_cons.mpr ⟨lw_p109, List.forall_mem_cons.mpr ⟨lw_p110, List.forall_mem_cons.mpr ⟨lw_p111, fun _ h => absurd h List.not_mem_nil⟩⟩⟩⟩⟩⟩⟩⟩⟩⟩⟩⟩⟩⟩⟩⟩
theorem lw_p112 : lw_okq (⟨"RookHustingModel", "layMay", "(II)I"⟩, 45) := ⟨⟨by decide +kernel, by decide +kernel⟩, List.mem_of_getElem? (i := 1272) (by decide +kernel), List.mem_of_getElem? (i := 1924) (by decide +kernel), List.mem_of_getElem? (i := 1925) (by decide +kernel)⟩
theorem lw_p113 : lw_okq (⟨"RookHustingModel", "askSeen", "(II)I"⟩, 45) := ⟨⟨by decide +kernel, by decide +kernel⟩, List.mem_of_getElem? (i := 1272) (by decide +kernel), List.mem_of_getElem? (i := 1928) (by decide +kernel), List.mem_of_getElem? (i := 1929) (by decide +kernel)⟩
theorem lw_p114 : lw_okq (⟨"RookHustingModel", "numberAt", "(II)J"⟩, 45) := ⟨⟨by decide +kernel, by decide +kernel⟩, List.mem_of_getElem? (i := 1272) (by decide +kernel), List.mem_of_getElem? (i := 1935) (by decide +kernel), List.mem_of_getElem? (i := 1936) (by decide +kernel)⟩
theorem lw_p115 : lw_okq (⟨"RookHustingModel", "isSeen", "(I)Z"⟩, 45) := ⟨⟨by decide +kernel, by decide +kernel⟩, List.mem_of_getElem? (i := 1272) (by decide +kernel), List.mem_of_getElem? (i := 1940) (by decide +kernel), List.mem_of_getElem? (i := 1941) (by decide +kernel)⟩
theorem lw_p116 : lw_okq (⟨"RookHustingModel", "askOf", "()I"⟩, 45) := ⟨⟨by decide +kernel, by decide +kernel⟩, List.mem_of_getElem? (i := 1272) (by decide +kernel), List.mem_of_getElem? (i := 1948) (by decide +kernel), List.mem_of_getElem? (i := 1949) (by decide +kernel)⟩
theorem lw_p117 : lw_okq (⟨"RookHustingModel", "sameBy", "(II)I"⟩, 45) := ⟨⟨by decide +kernel, by decide +kernel⟩, List.mem_of_getElem? (i := 1272) (by decide +kernel), List.mem_of_getElem? (i := 1952) (by decide +kernel), List.mem_of_getElem? (i := 1953) (by decide +kernel)⟩
theorem lw_p118 : lw_okq (⟨"RookHustingModel", "areFields", "(II)Z"⟩, 45) := ⟨⟨by decide +kernel, by decide +kernel⟩, List.mem_of_getElem? (i := 1272) (by decide +kernel), List.mem_of_getElem? (i := 1964) (by decide +kernel), List.mem_of_getElem? (i := 1965) (by decide +kernel)⟩
theorem lw_p119 : lw_okq (⟨"RookHustingModel", "getsBy", "(IIIII)I"⟩, 45) := ⟨⟨by decide +kernel, by decide +kernel⟩, List.mem_of_getElem? (i := 1272) (by decide +kernel), List.mem_of_getElem? (i := 1968) (by decide +kernel), List.mem_of_getElem? (i := 1969) (by decide +kernel)⟩
theorem lw_p120 : lw_okq (⟨"RookHustingModel", "isWinds", "(II)Z"⟩, 45) := ⟨⟨by decide +kernel, by decide +kernel⟩, List.mem_of_getElem? (i := 1272) (by decide +kernel), List.mem_of_getElem? (i := 1981) (by decide +kernel), List.mem_of_getElem? (i := 1982) (by decide +kernel)⟩
theorem lw_p121 : lw_okq (⟨"RookHustingModel", "layWinds", "(III)V"⟩, 45) := ⟨⟨by decide +kernel, by decide +kernel⟩, List.mem_of_getElem? (i := 1272) (by decide +kernel), List.mem_of_getElem? (i := 1987) (by decide +kernel), List.mem_of_getElem? (i := 1988) (by decide +kernel)⟩
theorem lw_p122 : lw_okq (⟨"RookHustingModel", "keepAct", "(I)Z"⟩, 45) := ⟨⟨by decide +kernel, by decide +kernel⟩, List.mem_of_getElem? (i := 1272) (by decide +kernel), List.mem_of_getElem? (i := 1999) (by decide +kernel), List.mem_of_getElem? (i := 2000) (by decide +kernel)⟩
theorem lw_p123 : lw_okq (⟨"RookHustingModel", "goDrawn", "(J)V"⟩, 45) := ⟨⟨by decide +kernel, by decide +kernel⟩, List.mem_of_getElem? (i := 1272) (by decide +kernel), List.mem_of_getElem? (i := 2023) (by decide +kernel), List.mem_of_getElem? (i := 2024) (by decide +kernel)⟩
def lw_privs_8 : List (MethodName × Nat) := [(⟨"RookHustingModel", "layMay", "(II)I"⟩, 45), (⟨"RookHustingModel", "askSeen", "(II)I"⟩, 45), (⟨"RookHustingModel", "numberAt", "(II)J"⟩, 45), (⟨"RookHustingModel", "isSeen", "(I)Z"⟩, 45), (⟨"RookHustingModel", "askOf", "()I"⟩, 45), (⟨"RookHustingModel", "sameBy", "(II)I"⟩, 45), (⟨"RookHustingModel", "areFields", "(II)Z"⟩, 45), (⟨"RookHustingModel", "getsBy", "(IIIII)I"⟩, 45), (⟨"RookHustingModel", "isWinds", "(II)Z"⟩, 45), (⟨"RookHustingModel", "layWinds", "(III)V"⟩, 45), (⟨"RookHustingModel", "keepAct", "(I)Z"⟩, 45), (⟨"RookHustingModel", "goDrawn", "(J)V"⟩, 45)]
theorem lw_r8 : ∀ q ∈ lw_privs_8, lw_okq q := List.forall_mem_cons.mpr ⟨lw_p112, List.forall_mem_cons.mpr ⟨lw_p113, List.forall_mem_cons.mpr ⟨lw_p114, List.forall_mem_cons.mpr ⟨lw_p115, List.forall_mem_cons.mpr ⟨lw_p116, List.forall_mem_cons.mpr ⟨lw_p117, List.forall_mem_cons.mpr ⟨lw_p118, List.forall_mem_cons.mpr ⟨lw_p119, List.forall_mem_cons.mpr ⟨lw_p120, List.forall_mem_cons.mpr ⟨lw_p121, List.forall_mem_cons.mpr ⟨lw_p122, List.forall_mem_cons.mpr ⟨lw_p123, fun _ h => absurd h List.not_mem_nil⟩⟩⟩⟩⟩⟩⟩⟩⟩⟩⟩⟩
def lw_privs : List (MethodName × Nat) := lw_privs_1 ++ (lw_privs_2 ++ (lw_privs_3 ++ (lw_privs_4 ++ (lw_privs_5 ++ (lw_privs_6 ++ (lw_privs_7 ++ (lw_privs_8)))))))
def lw_tbl : List Cond := k2_sels lw_privs ++ tables_1
theorem lw_privs_ok : ∀ q ∈ lw_privs, lw_okq q := by
  show ∀ q ∈ lw_privs_1 ++ (lw_privs_2 ++ (lw_privs_3 ++ (lw_privs_4 ++ (lw_privs_5 ++ (lw_privs_6 ++ (lw_privs_7 ++ (lw_privs_8))))))), lw_okq q
  exact List.forall_mem_append.mpr ⟨lw_r1, List.forall_mem_append.mpr ⟨lw_r2, List.forall_mem_append.mpr ⟨lw_r3, List.forall_mem_append.mpr ⟨lw_r4, List.forall_mem_append.mpr ⟨lw_r5, List.forall_mem_append.mpr ⟨lw_r6, List.forall_mem_append.mpr ⟨lw_r7, lw_r8⟩⟩⟩⟩⟩⟩⟩
-- ===== end of PART A; then your names; then what follows =====
/-- the words that every method may lean on: those of the tables that travel -/
def gTbl : List Cond := lw_tbl.filter goodWord
theorem gT_of {w : Cond} {i : Nat} (h : lw_tbl[i]? = some w) (hg : goodWord w = true) : w ∈ gTbl := List.mem_filter.mpr ⟨List.mem_of_getElem? h, hg⟩
theorem gT_good {c : Cond} (hc : c ∈ gTbl) : GoodIn gTbl (c :: gTbl) := fun w hw => by
  rcases List.mem_cons.mp hw with rfl | hw
  · exact ⟨hc, good_of_word (List.mem_filter.mp hc).2⟩
  · exact ⟨hw, good_of_word (List.mem_filter.mp hw).2⟩
end
section
/-! ===== an interpreter over intervals: its values ===== -/
abbrev AV : Type := Nat × Int × Int
abbrev AC : Type := (Nat × List AV) ⊕ (Nat × List (Nat × AV))
abbrev GI : Type := List (Int × Int)
abbrev EV : Type := List Value × List Nat
/-- two lists, place by place -/
def zf2 {α β : Type} (R : α → β → Prop) : List α → List β → Prop
  | [], [] => True
  | a :: as, b :: bs => R a b ∧ zf2 R as bs
  | [], _ :: _ => False
  | _ :: _, [] => False
theorem zf2_get {α β : Type} {R : α → β → Prop} : ∀ {as : List α} {bs : List β}, zf2 R as bs → ∀ {i : Nat} {a : α}, as[i]? = some a → ∃ b, bs[i]? = some b ∧ R a b
  | [], [], _, i, a, h => by simp at h
  | x :: as, y :: bs, h, 0, a, hi => ⟨y, rfl, by cases hi; exact h.1⟩
  | x :: as, y :: bs, h, i + 1, a, hi => zf2_get (as := as) (bs := bs) h.2 (i := i) (by simpa using hi)
theorem zf2_len {α β : Type} {R : α → β → Prop} : ∀ {as : List α} {bs : List β}, zf2 R as bs → as.length = bs.length
  | [], [], _ => rfl
  | _ :: as, _ :: bs, h => congrArg (· + 1) (zf2_len (as := as) (bs := bs) h.2)
theorem zf2_mono {α β : Type} {R S : α → β → Prop} (hm : ∀ a b, R a b → S a b) : ∀ {as : List α} {bs : List β}, zf2 R as bs → zf2 S as bs
  | [], [], _ => trivial
  | _ :: as, _ :: bs, h => ⟨hm _ _ h.1, zf2_mono hm (as := as) (bs := bs) h.2⟩
theorem zf2_set {α β : Type} {R : α → β → Prop} {a : α} {b : β} (hr : R a b) : ∀ {as : List α} {bs : List β}, zf2 R as bs → ∀ (i : Nat), zf2 R (as.set i a) (bs.set i b)
  | [], [], _, _ => trivial
  | _ :: as, _ :: bs, h, 0 => ⟨hr, h.2⟩
  | _ :: as, _ :: bs, h, i + 1 => ⟨h.1, zf2_set hr (as := as) (bs := bs) h.2 i⟩
theorem zf2_app {α β : Type} {R : α → β → Prop} {a : α} {b : β} (hr : R a b) : ∀ {as : List α} {bs : List β}, zf2 R as bs → zf2 R (as ++ [a]) (bs ++ [b])
  | [], [], _ => ⟨hr, trivial⟩
  | _ :: as, _ :: bs, h => ⟨h.1, zf2_app hr (as := as) (bs := bs) h.2⟩
theorem zf2_of {α β : Type} {R : α → β → Prop} : ∀ {as : List α} {bs : List β}, as.length = bs.length → (∀ (i : Nat) (a : α) (b : β), as[i]? = some a → bs[i]? = some b → R a b) → zf2 R as bs
  | [], [], _, _ => trivial
  | [], _ :: _, h, _ => by simp at h
  | _ :: _, [], h, _ => by simp at h
  | a :: as, b :: bs, h, hr => ⟨hr 0 a b rfl rfl, zf2_of (as := as) (bs := bs) (by simpa using h) (fun i x y hx hy => hr (i + 1) x y (by simpa using hx) (by simpa using hy))⟩
theorem zf2_cons {α β : Type} {R : α → β → Prop} {a : α} {as : List α} {bs : List β} (h : zf2 R (a :: as) bs) : ∃ b bs', bs = b :: bs' ∧ R a b ∧ zf2 R as bs' := by
  cases bs with
  | nil => exact h.elim
  | cons b bs' => exact ⟨b, bs', rfl, h.1, h.2⟩
def inI (q : Int × Int) (z : Int) : Prop := q.1 ≤ z ∧ z ≤ q.2
abbrev GS (G : GI) (g : List Int) : Prop := zf2 inI G g
def gxt (g g' : List Int) : Prop := ∃ e, g' = g ++ e
theorem gxt_rf {g : List Int} : gxt g g := ⟨[], by simp⟩
theorem gxt_one {g : List Int} {z : Int} : gxt g (g ++ [z]) := ⟨[z], rfl⟩
theorem gxt_tr {a b c : List Int} (h : gxt a b) (k : gxt b c) : gxt a c := by
  obtain ⟨e, rfl⟩ := h; obtain ⟨f, rfl⟩ := k; exact ⟨e ++ f, by simp⟩
theorem gxt_get {g g' : List Int} (h : gxt g g') {i : Nat} {z : Int} (hi : g[i]? = some z) : g'[i]? = some z := by
  obtain ⟨e, rfl⟩ := h
  rw [List.getElem?_append_left (List.getElem?_eq_some_iff.mp hi).1]; exact hi
/-- what a value is: 0 an int, 1 a named int and more, 2 an int between; 3, 4, 5 the same of longs; 6 a place of the world; 7 null; 8 a value as it was -/
def gam (g : List Int) (V : EV) (a : AV) (v : Value) : Prop :=
  match a.1 with
  | 0 => ∃ x : Int32, v = .int x ∧ x.toInt = a.2.1
  | 1 => ∃ x : Int32, v = .int x ∧ ∃ z, g[a.2.1.toNat]? = some z ∧ x.toInt = z + a.2.2
  | 2 => ∃ x : Int32, v = .int x ∧ a.2.1 ≤ x.toInt ∧ x.toInt ≤ a.2.2
  | 3 => ∃ x : Int64, v = .long x ∧ x.toInt = a.2.1
  | 4 => ∃ x : Int64, v = .long x ∧ ∃ z, g[a.2.1.toNat]? = some z ∧ x.toInt = z + a.2.2
  | 5 => ∃ x : Int64, v = .long x ∧ a.2.1 ≤ x.toInt ∧ x.toInt ≤ a.2.2
  | 6 => ∃ r : Nat, V.2[a.2.1.toNat]? = some r ∧ v = .ref r
  | 7 => v = .null
  | 8 => V.1[a.2.1.toNat]? = some v
  | 11 => ∃ r : Nat, V.1[a.2.1.toNat]? = some (.ref r) ∧ v = .ref r
  | _ => False
theorem gam_ext {g g' : List Int} {V : EV} {a : AV} {v : Value} (h : gxt g g') (hg : gam g V a v) : gam g' V a v := by
  unfold gam at hg ⊢
  split at hg
  · exact hg
  · obtain ⟨x, h1, z, h2, h3⟩ := hg; exact ⟨x, h1, z, gxt_get h h2, h3⟩
  · exact hg
  · exact hg
  · obtain ⟨x, h1, z, h2, h3⟩ := hg; exact ⟨x, h1, z, gxt_get h h2, h3⟩
  · exact hg
  · exact hg
  · exact hg
  · exact hg
  · exact hg
  · exact hg.elim
def ivI (G : GI) (a : AV) : Option (Int × Int) :=
  match a.1 with
  | 0 => some (a.2.1, a.2.1)
  | 1 => match G[a.2.1.toNat]? with
    | some q => some (q.1 + a.2.2, q.2 + a.2.2)
    | none => none
  | 2 => some (a.2.1, a.2.2)
  | _ => none
def ivL (G : GI) (a : AV) : Option (Int × Int) :=
  match a.1 with
  | 3 => some (a.2.1, a.2.1)
  | 4 => match G[a.2.1.toNat]? with
    | some q => some (q.1 + a.2.2, q.2 + a.2.2)
    | none => none
  | 5 => some (a.2.1, a.2.2)
  | _ => none
theorem ivI_ok {G : GI} {g : List Int} {V : EV} {a : AV} {v : Value} {q : Int × Int} (hG : GS G g) (h : gam g V a v) (hi : ivI G a = some q) : ∃ x : Int32, v = .int x ∧ inI q x.toInt := by
  obtain ⟨t, b, c⟩ := a
  unfold ivI at hi
  split at hi
  · rename_i ht; simp only at ht; subst ht
    obtain ⟨x, h1, h2⟩ := h
    cases hi; exact ⟨x, h1, by simp only at h2; exact ⟨by simp [h2], by simp [h2]⟩⟩
  · rename_i ht; simp only at ht; subst ht
    obtain ⟨x, h1, z, h2, h3⟩ := h
    split at hi
    · rename_i r hr
      cases hi
      obtain ⟨z', h4, h5⟩ := zf2_get hG hr
      simp only at h2 h3
      have : z = z' := Option.some.inj (h2.symm.trans h4)
      subst this
      unfold inI at h5
      exact ⟨x, h1, by unfold inI; simp only; omega⟩
    · cases hi
  · rename_i ht; simp only at ht; subst ht
    obtain ⟨x, h1, h2, h3⟩ := h
    cases hi; exact ⟨x, h1, h2, h3⟩
  · cases hi
theorem ivL_ok {G : GI} {g : List Int} {V : EV} {a : AV} {v : Value} {q : Int × Int} (hG : GS G g) (h : gam g V a v) (hi : ivL G a = some q) : ∃ x : Int64, v = .long x ∧ inI q x.toInt := by
  obtain ⟨t, b, c⟩ := a
  unfold ivL at hi
  split at hi
  · rename_i ht; simp only at ht; subst ht
    obtain ⟨x, h1, h2⟩ := h
    cases hi; exact ⟨x, h1, by simp only at h2; exact ⟨by simp [h2], by simp [h2]⟩⟩
  · rename_i ht; simp only at ht; subst ht
    obtain ⟨x, h1, z, h2, h3⟩ := h
    split at hi
    · rename_i r hr
      cases hi
      obtain ⟨z', h4, h5⟩ := zf2_get hG hr
      simp only at h2 h3
      have : z = z' := Option.some.inj (h2.symm.trans h4)
      subst this
      unfold inI at h5
      exact ⟨x, h1, by unfold inI; simp only; omega⟩
    · cases hi
  · rename_i ht; simp only at ht; subst ht
    obtain ⟨x, h1, h2, h3⟩ := h
    cases hi; exact ⟨x, h1, h2, h3⟩
  · cases hi
/-- a new number between two bounds -/
def mk2 (G : GI) (q : Int × Int) : GI × AV := if q.1 = q.2 then (G, (0, q.1, 0)) else (G ++ [q], (1, (G.length : Int), 0))
def mk5 (G : GI) (q : Int × Int) : GI × AV := if q.1 = q.2 then (G, (3, q.1, 0)) else (G ++ [q], (4, (G.length : Int), 0))
theorem mk2_ok {G : GI} {g : List Int} {V : EV} {q : Int × Int} (hG : GS G g) (x : Int32) (hx : inI q x.toInt) : ∃ g', gxt g g' ∧ GS (mk2 G q).1 g' ∧ gam g' V (mk2 G q).2 (.int x) := by
  unfold mk2
  split
  · rename_i h
    unfold inI at hx
    exact ⟨g, gxt_rf, hG, x, rfl, by simp only; omega⟩
  · refine ⟨g ++ [x.toInt], gxt_one, zf2_app hx hG, x, rfl, x.toInt, ?_, by simp⟩
    simp [zf2_len hG]
theorem mk5_ok {G : GI} {g : List Int} {V : EV} {q : Int × Int} (hG : GS G g) (x : Int64) (hx : inI q x.toInt) : ∃ g', gxt g g' ∧ GS (mk5 G q).1 g' ∧ gam g' V (mk5 G q).2 (.long x) := by
  unfold mk5
  split
  · rename_i h
    unfold inI at hx
    exact ⟨g, gxt_rf, hG, x, rfl, by simp only; omega⟩
  · refine ⟨g ++ [x.toInt], gxt_one, zf2_app hx hG, x, rfl, x.toInt, ?_, by simp⟩
    simp [zf2_len hG]
def topI : Int × Int := (-2147483648, 2147483647)
def topL : Int × Int := (-9223372036854775808, 9223372036854775807)
theorem topI_ok (x : Int32) : inI topI x.toInt := ⟨Int32.le_toInt x, by have := Int32.toInt_lt x; show x.toInt ≤ 2147483647; omega⟩
theorem topL_ok (x : Int64) : inI topL x.toInt := ⟨Int64.le_toInt x, by have := Int64.toInt_lt x; show x.toInt ≤ 9223372036854775807; omega⟩
end
section
/-! ===== sums and their like, over intervals ===== -/
def BinS (f : GI → AV → AV → Option (GI × AV)) (op : Int32 → Int32 → Int32) : Prop := ∀ (G : GI) (g : List Int) (V : EV) (a b : AV) (x y : Int32) (r : GI × AV), GS G g → gam g V a (.int x) → gam g V b (.int y) → f G a b = some r → ∃ g', gxt g g' ∧ GS r.1 g' ∧ gam g' V r.2 (.int (op x y))
def binF (F : Int × Int → Int × Int → Int × Int) (G : GI) (a b : AV) : Option (GI × AV) :=
  match ivI G a, ivI G b with
  | some p, some q => some (mk2 G (F p q))
  | _, _ => none
theorem binF_ok {F : Int × Int → Int × Int → Int × Int} {op : Int32 → Int32 → Int32} (h : ∀ (p q : Int × Int) (x y : Int32), inI p x.toInt → inI q y.toInt → inI (F p q) (op x y).toInt) : BinS (binF F) op := by
  intro G g V a b x y r hG ha hb hf
  unfold binF at hf
  split at hf
  · rename_i p q hp hq
    obtain ⟨x', e1, h1⟩ := ivI_ok hG ha hp
    obtain ⟨y', e2, h2⟩ := ivI_ok hG hb hq
    cases e1; cases e2; cases hf
    exact mk2_ok hG _ (h p q x y h1 h2)
  · cases hf
theorem ae_bm {z : Int} (h1 : -2147483648 ≤ z) (h2 : z ≤ 2147483647) : z.bmod (2 ^ 32) = z := Int.bmod_eq_of_le (by omega) (by omega)
theorem ae_bmL {z : Int} (h1 : -9223372036854775808 ≤ z) (h2 : z ≤ 9223372036854775807) : z.bmod (2 ^ 64) = z := Int.bmod_eq_of_le (by omega) (by omega)
/-- x + y: a named number and a known one keep the name -/
def addI (G : GI) (a b : AV) : Option (GI × AV) :=
  match ivI G a, ivI G b with
  | some p, some q =>
    if -2147483648 ≤ p.1 + q.1 ∧ p.2 + q.2 ≤ 2147483647 then
      if a.1 = 1 ∧ b.1 = 0 then some (G, (1, a.2.1, a.2.2 + b.2.1))
      else if a.1 = 0 ∧ b.1 = 1 then some (G, (1, b.2.1, b.2.2 + a.2.1))
      else some (mk2 G (p.1 + q.1, p.2 + q.2))
    else some (mk2 G topI)
  | _, _ => none
theorem addI_ok : BinS addI (fun x y => x + y) := by
  intro G g V a b x y r hG ha hb hf
  unfold addI at hf
  split at hf
  · rename_i p q hp hq
    obtain ⟨x', e1, h1⟩ := ivI_ok hG ha hp
    obtain ⟨y', e2, h2⟩ := ivI_ok hG hb hq
    cases e1; cases e2
    unfold inI at h1 h2
    split at hf
    · rename_i hr
      have hs : (x + y).toInt = x.toInt + y.toInt := by rw [Int32.toInt_add, ae_bm (by omega) (by omega)]
      split at hf
      · rename_i ht
        cases hf
        obtain ⟨ta, a1, a2⟩ := a; obtain ⟨tb, b1, b2⟩ := b
        simp only at ht
        obtain ⟨rfl, rfl⟩ := ht
        obtain ⟨u, eu, z, h4, h5⟩ := ha
        obtain ⟨w, ew, h6⟩ := hb
        cases eu; cases ew
        exact ⟨g, gxt_rf, hG, _, rfl, z, h4, by rw [hs]; simp only at h5 h6 ⊢; omega⟩
      · split at hf
        · rename_i ht
          cases hf
          obtain ⟨ta, a1, a2⟩ := a; obtain ⟨tb, b1, b2⟩ := b
          simp only at ht
          obtain ⟨rfl, rfl⟩ := ht
          obtain ⟨u, eu, h6⟩ := ha
          obtain ⟨w, ew, z, h4, h5⟩ := hb
          cases eu; cases ew
          exact ⟨g, gxt_rf, hG, _, rfl, z, h4, by rw [hs]; simp only at h5 h6 ⊢; omega⟩
        · cases hf
          exact mk2_ok hG _ (by unfold inI; rw [hs]; simp only; omega)
    · cases hf
      exact mk2_ok hG _ (topI_ok _)
  · cases hf
def subI (G : GI) (a b : AV) : Option (GI × AV) :=
  match ivI G a, ivI G b with
  | some p, some q =>
    if -2147483648 ≤ p.1 - q.2 ∧ p.2 - q.1 ≤ 2147483647 then
      if a.1 = 1 ∧ b.1 = 0 then some (G, (1, a.2.1, a.2.2 - b.2.1))
      else some (mk2 G (p.1 - q.2, p.2 - q.1))
    else some (mk2 G topI)
  | _, _ => none
theorem subI_ok : BinS subI (fun x y => x - y) := by
  intro G g V a b x y r hG ha hb hf
  unfold subI at hf
  split at hf
  · rename_i p q hp hq
    obtain ⟨x', e1, h1⟩ := ivI_ok hG ha hp
    obtain ⟨y', e2, h2⟩ := ivI_ok hG hb hq
    cases e1; cases e2
    unfold inI at h1 h2
    split at hf
    · rename_i hr
      have hs : (x - y).toInt = x.toInt - y.toInt := by rw [Int32.toInt_sub, ae_bm (by omega) (by omega)]
      split at hf
      · rename_i ht
        cases hf
        obtain ⟨ta, a1, a2⟩ := a; obtain ⟨tb, b1, b2⟩ := b
        simp only at ht
        obtain ⟨rfl, rfl⟩ := ht
        obtain ⟨u, eu, z, h4, h5⟩ := ha
        obtain ⟨w, ew, h6⟩ := hb
        cases eu; cases ew
        exact ⟨g, gxt_rf, hG, _, rfl, z, h4, by rw [hs]; simp only at h5 h6 ⊢; omega⟩
      · cases hf
        exact mk2_ok hG _ (by unfold inI; rw [hs]; simp only; omega)
    · cases hf
      exact mk2_ok hG _ (topI_ok _)
  · cases hf
def mulF (p q : Int × Int) : Int × Int := if 0 ≤ p.1 ∧ 0 ≤ q.1 ∧ p.2 * q.2 ≤ 2147483647 then (p.1 * q.1, p.2 * q.2) else topI
theorem ae_mul {a b c d x y : Int} (h0 : 0 ≤ a) (h1 : 0 ≤ c) (hx : a ≤ x) (hx2 : x ≤ b) (hy : c ≤ y) (hy2 : y ≤ d) : a * c ≤ x * y ∧ x * y ≤ b * d :=
  ⟨Int.mul_le_mul hx hy h1 (Int.le_trans h0 hx), Int.mul_le_mul hx2 hy2 (Int.le_trans h1 hy) (Int.le_trans (Int.le_trans h0 hx) hx2)⟩
theorem mulF_ok (p q : Int × Int) (x y : Int32) (hx : inI p x.toInt) (hy : inI q y.toInt) : inI (mulF p q) (x * y).toInt := by
  unfold mulF
  split
  · rename_i h
    unfold inI at hx hy
    have hm := ae_mul h.1 h.2.1 hx.1 hx.2 hy.1 hy.2
    have hp : 0 ≤ p.1 * q.1 := Int.mul_nonneg h.1 h.2.1
    rw [Int32.toInt_mul, ae_bm (by omega) (by omega)]
    exact hm
  · exact topI_ok _
theorem ae_and (x y : Int32) (hy : 0 ≤ y.toInt) : 0 ≤ (x &&& y).toInt ∧ (x &&& y).toInt ≤ y.toInt := by
  have e1 : (x &&& y).toInt = (x.toBitVec &&& y.toBitVec).toInt := rfl
  have e2 : y.toInt = y.toBitVec.toInt := rfl
  rw [e1]
  rw [e2] at hy ⊢
  have hle : (x.toBitVec &&& y.toBitVec).toNat ≤ y.toBitVec.toNat := by rw [BitVec.toNat_and]; exact Nat.and_le_right
  rw [BitVec.toInt_eq_toNat_cond] at hy ⊢
  rw [BitVec.toInt_eq_toNat_cond]
  have h1 := y.toBitVec.isLt
  have h2 := (x.toBitVec &&& y.toBitVec).isLt
  split at hy
  · rename_i h3
    rw [if_pos h3, if_pos (by omega)]
    omega
  · omega
theorem ae_andc (x y : Int32) : x &&& y = y &&& x := by
  apply Int32.toBitVec_inj.mp
  exact BitVec.and_comm _ _
def andF (p q : Int × Int) : Int × Int := if 0 ≤ q.1 ∧ 0 ≤ p.1 then (0, min p.2 q.2) else if 0 ≤ q.1 then (0, q.2) else if 0 ≤ p.1 then (0, p.2) else topI
theorem andF_ok (p q : Int × Int) (x y : Int32) (hx : inI p x.toInt) (hy : inI q y.toInt) : inI (andF p q) (x &&& y).toInt := by
  unfold inI at hx hy
  unfold andF
  split
  · have h1 := ae_and x y (by omega)
    have h2 := ae_and y x (by omega)
    rw [ae_andc y x] at h2
    exact ⟨h1.1, by simp only; omega⟩
  · split
    · have h1 := ae_and x y (by omega)
      exact ⟨h1.1, by simp only; omega⟩
    · split
      · have h2 := ae_and y x (by omega)
        rw [ae_andc y x] at h2
        exact ⟨h2.1, by simp only; omega⟩
      · exact topI_ok _
def topF (_ _ : Int × Int) : Int × Int := topI
theorem topF_ok {op : Int32 → Int32 → Int32} (p q : Int × Int) (x y : Int32) (_ : inI p x.toInt) (_ : inI q y.toInt) : inI (topF p q) (op x y).toInt := topI_ok _
def shrF (p _ : Int × Int) : Int × Int := if 0 ≤ p.1 then (0, p.2) else topI
theorem shrF_ok (p q : Int × Int) (x y : Int32) (hx : inI p x.toInt) (_ : inI q y.toInt) : inI (shrF p q) (x >>> (y &&& 31)).toInt := by
  unfold inI at hx
  unfold shrF
  split
  · rw [pk_shr x (y &&& 31) _ rfl, Int.shiftRight_eq_div_pow]
    refine ⟨Int.ediv_nonneg (by omega) (Int.natCast_nonneg _), ?_⟩
    exact Int.le_trans (Int.ediv_le_self _ (by omega)) hx.2
  · exact topI_ok _
theorem ae_sl : ∀ n : Nat, n < 32 → ((nI n &&& 31).toBitVec.smod 32).toNat = n := by decide +kernel
theorem ae_nI {x : Int32} (h : 0 ≤ x.toInt) : x = nI x.toInt.toNat := by
  apply Int32.toInt_inj.mp
  have := Int32.toInt_lt x
  rw [nI_toInt (by omega)]
  omega
def shlF (p q : Int × Int) : Int × Int := if 0 ≤ p.1 ∧ 0 ≤ q.1 ∧ q.2 ≤ 30 ∧ p.2 * ((2 ^ q.2.toNat : Nat) : Int) ≤ 2147483647 then (p.1 * ((2 ^ q.1.toNat : Nat) : Int), p.2 * ((2 ^ q.2.toNat : Nat) : Int)) else topI
theorem shlF_ok (p q : Int × Int) (x y : Int32) (hx : inI p x.toInt) (hy : inI q y.toInt) : inI (shlF p q) (x <<< (y &&& 31)).toInt := by
  unfold inI at hx hy
  unfold shlF
  split
  · rename_i h
    have ex := ae_nI (x := x) (by omega)
    have ey := ae_nI (x := y) (by omega)
    generalize hn : x.toInt.toNat = n at ex
    generalize hk : y.toInt.toNat = k at ey
    have hnx : x.toInt = (n : Int) := by omega
    have hky : y.toInt = (k : Int) := by omega
    have hp1 : (2 : Nat) ^ k ≤ 2 ^ q.2.toNat := Nat.pow_le_pow_right (by decide) (by omega)
    have hp2 : (2 : Nat) ^ q.1.toNat ≤ 2 ^ k := Nat.pow_le_pow_right (by decide) (by omega)
    have hm := ae_mul (a := p.1) (b := p.2) (c := ((2 ^ q.1.toNat : Nat) : Int)) (d := ((2 ^ q.2.toNat : Nat) : Int)) (x := (n : Int)) (y := ((2 ^ k : Nat) : Int)) h.1 (Int.natCast_nonneg _) (by omega) (by omega) (Int.ofNat_le.mpr hp2) (Int.ofNat_le.mpr hp1)
    have hb : n * 2 ^ k < 2 ^ 31 := by
      have : ((n * 2 ^ k : Nat) : Int) ≤ 2147483647 := by rw [Int.natCast_mul]; omega
      omega
    rw [ex, ey, pk_shlN _ k (ae_sl k (by omega)) (by omega), nI_toInt hb, Int.natCast_mul]
    exact hm
  · exact topI_ok _
def divF (p q : Int × Int) : Int × Int := if 0 ≤ p.1 ∧ 0 < q.1 then (0, p.2 / q.1) else topI
theorem divF_ok (p q : Int × Int) (x y : Int32) (hx : inI p x.toInt) (hy : inI q y.toInt) : inI (divF p q) (x / y).toInt := by
  unfold inI at hx hy
  unfold divF
  split
  · rename_i h
    have ex := ae_nI (x := x) (by omega)
    have ey := ae_nI (x := y) (by omega)
    have b1 := Int32.toInt_lt x
    have b2 := Int32.toInt_lt y
    generalize hn : x.toInt.toNat = n at ex
    generalize hk : y.toInt.toNat = k at ey
    have hnx : x.toInt = (n : Int) := by omega
    have hky : y.toInt = (k : Int) := by omega
    have hdl : n / k ≤ n := Nat.div_le_self n k
    rw [ex, ey, pk_div (by omega) (by omega) (by omega), nI_toInt (by omega)]
    refine ⟨Int.natCast_nonneg _, ?_⟩
    show ((n / k : Nat) : Int) ≤ p.2 / q.1
    rw [Int.natCast_ediv]
    refine Int.le_trans (Int.ediv_le_ediv (by omega) (show (n : Int) ≤ p.2 by omega)) ?_
    apply Int.le_ediv_of_mul_le h.2
    have h5 : p.2 / (k : Int) * q.1 ≤ p.2 / (k : Int) * (k : Int) := Int.mul_le_mul_of_nonneg_left (by omega) (Int.ediv_nonneg (by omega) (by omega))
    have h6 : p.2 / (k : Int) * (k : Int) ≤ p.2 := Int.ediv_mul_le _ (by omega)
    omega
  · exact topI_ok _
def remF (p q : Int × Int) : Int × Int := if 0 ≤ p.1 ∧ 0 < q.1 then (0, min p.2 (q.2 - 1)) else topI
theorem remF_ok (p q : Int × Int) (x y : Int32) (hx : inI p x.toInt) (hy : inI q y.toInt) : inI (remF p q) (x - x / y * y).toInt := by
  unfold inI at hx hy
  unfold remF
  split
  · rename_i h
    have ex := ae_nI (x := x) (by omega)
    have ey := ae_nI (x := y) (by omega)
    have b1 := Int32.toInt_lt x
    have b2 := Int32.toInt_lt y
    generalize hn : x.toInt.toNat = n at ex
    generalize hk : y.toInt.toNat = k at ey
    have hnx : x.toInt = (n : Int) := by omega
    have hky : y.toInt = (k : Int) := by omega
    have h1 : n % k ≤ n := Nat.mod_le n k
    have h2 : n % k < k := Nat.mod_lt n (by omega)
    rw [ex, ey, pk_rem (by omega) (by omega) (by omega), nI_toInt (by omega)]
    exact ⟨by omega, by simp only; omega⟩
  · exact topI_ok _
/-- an int as a long: the same number -/
def i2lA (a : AV) : Option AV := match a.1 with
  | 0 => some (3, a.2.1, a.2.2)
  | 1 => some (4, a.2.1, a.2.2)
  | 2 => some (5, a.2.1, a.2.2)
  | _ => none
theorem i2lA_ok {g : List Int} {V : EV} {a r : AV} {v : Value} (h : gam g V a v) (hr : i2lA a = some r) : ∃ x : Int32, v = .int x ∧ gam g V r (.long x.toInt64) := by
  obtain ⟨t, b, c⟩ := a
  unfold i2lA at hr
  split at hr
  · rename_i ht; simp only at ht; subst ht; cases hr
    obtain ⟨x, h1, h2⟩ := h
    exact ⟨x, h1, _, rfl, by rw [Int32.toInt_toInt64]; exact h2⟩
  · rename_i ht; simp only at ht; subst ht; cases hr
    obtain ⟨x, h1, z, h2, h3⟩ := h
    exact ⟨x, h1, _, rfl, z, h2, by rw [Int32.toInt_toInt64]; exact h3⟩
  · rename_i ht; simp only at ht; subst ht; cases hr
    obtain ⟨x, h1, h2, h3⟩ := h
    exact ⟨x, h1, _, rfl, by rw [Int32.toInt_toInt64]; exact h2, by rw [Int32.toInt_toInt64]; exact h3⟩
  · cases hr
theorem ae_i2b (x : Int32) : inI (-128, 127) x.toInt8.toInt32.toInt := by
  rw [lg_i2b_toInt]
  unfold inI
  have h1 := Int.le_bmod (x := x.toInt) (m := 2 ^ 8) (by decide)
  have h2 := Int.bmod_lt (x := x.toInt) (m := 2 ^ 8) (by decide)
  constructor <;> simp only <;> omega
end
section
/-! ===== comparisons, and what each way tells ===== -/
/-- 0 =, 1 ≠, 2 <, 3 ≥, 4 >, 5 ≤ -/
def cmpH (k : Nat) (x y : Int) : Prop := match k with
  | 0 => x = y
  | 1 => x ≠ y
  | 2 => x < y
  | 3 => y ≤ x
  | 4 => y < x
  | _ => x ≤ y
def cmpN (k : Nat) : Nat := match k with
  | 0 => 1
  | 1 => 0
  | 2 => 3
  | 3 => 2
  | 4 => 5
  | _ => 4
theorem cmpN_ok {k : Nat} {x y : Int} (h : ¬ cmpH k x y) : cmpH (cmpN k) x y := by
  unfold cmpH at h
  unfold cmpN cmpH
  split at h <;> simp only <;> omega
def cutR (k : Nat) (p q : Int × Int) : (Int × Int) × (Int × Int) := match k with
  | 0 => ((max p.1 q.1, min p.2 q.2), (max p.1 q.1, min p.2 q.2))
  | 1 => if q.1 = q.2 then ((if p.1 = q.1 then p.1 + 1 else p.1, if p.2 = q.1 then p.2 - 1 else p.2), q) else if p.1 = p.2 then (p, (if q.1 = p.1 then q.1 + 1 else q.1, if q.2 = p.1 then q.2 - 1 else q.2)) else (p, q)
  | 2 => ((p.1, min p.2 (q.2 - 1)), (max q.1 (p.1 + 1), q.2))
  | 3 => ((max p.1 q.1, p.2), (q.1, min q.2 p.2))
  | 4 => ((max p.1 (q.1 + 1), p.2), (q.1, min q.2 (p.2 - 1)))
  | _ => ((p.1, min p.2 q.2), (max q.1 p.1, q.2))
theorem cutR_ok {k : Nat} {p q : Int × Int} {x y : Int} (hx : inI p x) (hy : inI q y) (h : cmpH k x y) : inI (cutR k p q).1 x ∧ inI (cutR k p q).2 y := by
  unfold inI at hx hy ⊢
  unfold cmpH at h
  unfold cutR
  split at h
  · simp only; omega
  · split
    · simp only
      refine ⟨⟨?_, ?_⟩, hy⟩ <;> split <;> omega
    · split
      · simp only
        refine ⟨hx, ⟨?_, ?_⟩⟩ <;> split <;> omega
      · exact ⟨hx, hy⟩
  · simp only; omega
  · simp only; omega
  · simp only; omega
  · simp only; omega
def setG (G : GI) (a : AV) (q : Int × Int) : GI := match a.1 with
  | 1 => G.set a.2.1.toNat (q.1 - a.2.2, q.2 - a.2.2)
  | 4 => G.set a.2.1.toNat (q.1 - a.2.2, q.2 - a.2.2)
  | _ => G
theorem zf2_setL {α β : Type} {R : α → β → Prop} {a : α} {b : β} (hr : R a b) : ∀ {as : List α} {bs : List β}, zf2 R as bs → ∀ {i : Nat}, bs[i]? = some b → zf2 R (as.set i a) bs
  | [], [], _, _, _ => trivial
  | _ :: as, c :: bs, h, 0, hb => by
    have : c = b := by simpa using hb
    subst this
    exact ⟨hr, h.2⟩
  | _ :: as, _ :: bs, h, i + 1, hb => ⟨h.1, zf2_setL hr (as := as) (bs := bs) h.2 (i := i) (by simpa using hb)⟩
/-- the number that a value is -/
def numV : Value → Option Int
  | .int x => some x.toInt
  | .long x => some x.toInt
  | _ => none
theorem setG_ok {G : GI} {g : List Int} {V : EV} {a : AV} {v : Value} {q : Int × Int} {z : Int} (hG : GS G g) (ha : gam g V a v) (hz : numV v = some z) (hq : inI q z) : GS (setG G a q) g := by
  obtain ⟨t, b, c⟩ := a
  unfold setG
  split
  · rename_i ht; simp only at ht; subst ht
    obtain ⟨x, h1, w, h2, h3⟩ := ha
    subst h1
    cases hz
    unfold inI at hq
    exact zf2_setL (b := w) (by unfold inI; simp only at h3 ⊢; omega) hG h2
  · rename_i ht; simp only at ht; subst ht
    obtain ⟨x, h1, w, h2, h3⟩ := ha
    subst h1
    cases hz
    unfold inI at hq
    exact zf2_setL (b := w) (by unfold inI; simp only at h3 ⊢; omega) hG h2
  · exact hG
def rfC (k : Nat) (G : GI) (a b : AV) (p q : Int × Int) : List GI := if (cutR k p q).1.1 ≤ (cutR k p q).1.2 ∧ (cutR k p q).2.1 ≤ (cutR k p q).2.2 then [setG (setG G a (cutR k p q).1) b (cutR k p q).2] else []
theorem rfC_ok {k : Nat} {G : GI} {g : List Int} {V : EV} {a b : AV} {v w : Value} {p q : Int × Int} {x y : Int} (hG : GS G g) (ha : gam g V a v) (hb : gam g V b w) (hx : numV v = some x) (hy : numV w = some y) (hp : inI p x) (hq : inI q y) (h : cmpH k x y) : ∃ G' ∈ rfC k G a b p q, GS G' g := by
  have hc := cutR_ok hp hq h
  unfold rfC
  have h1 := hc.1
  have h2 := hc.2
  unfold inI at h1 h2
  rw [if_pos ⟨by omega, by omega⟩]
  exact ⟨_, List.mem_singleton.mpr rfl, setG_ok (setG_ok hG ha hx hc.1) hb hy hc.2⟩
/-- unlike: less or more -/
def rfX (k : Nat) (G : GI) (a b : AV) (p q : Int × Int) : List GI := if k = 1 then (if p.1 = p.2 ∨ q.1 = q.2 then rfC 2 G a b p q ++ rfC 4 G a b p q else [G]) else rfC k G a b p q
theorem rfX_ok {k : Nat} {G : GI} {g : List Int} {V : EV} {a b : AV} {v w : Value} {p q : Int × Int} {x y : Int} (hG : GS G g) (ha : gam g V a v) (hb : gam g V b w) (hx : numV v = some x) (hy : numV w = some y) (hp : inI p x) (hq : inI q y) (h : cmpH k x y) : ∃ G' ∈ rfX k G a b p q, GS G' g := by
  unfold rfX
  split
  · rename_i hk
    subst hk
    split
    · have h : x ≠ y := h
      rcases (show x < y ∨ y < x by omega) with h | h
      · obtain ⟨G', h1, h2⟩ := rfC_ok (k := 2) hG ha hb hx hy hp hq h
        exact ⟨G', List.mem_append_left _ h1, h2⟩
      · obtain ⟨G', h1, h2⟩ := rfC_ok (k := 4) hG ha hb hx hy hp hq h
        exact ⟨G', List.mem_append_right _ h1, h2⟩
    · exact ⟨G, List.mem_singleton.mpr rfl, hG⟩
  · exact rfC_ok hG ha hb hx hy hp hq h
def rfI (k : Nat) (G : GI) (a b : AV) : Option (List GI) :=
  match ivI G a, ivI G b with
  | some p, some q => some (rfX k G a b p q)
  | _, _ => none
def rfL (k : Nat) (G : GI) (a b : AV) : Option (List GI) :=
  match ivL G a, ivL G b with
  | some p, some q => some (rfX k G a b p q)
  | _, _ => none
theorem rfI_ok {k : Nat} {G : GI} {g : List Int} {V : EV} {a b : AV} {v w : Value} {L : List GI} (hG : GS G g) (ha : gam g V a v) (hb : gam g V b w) (hL : rfI k G a b = some L) : ∃ x y : Int32, v = .int x ∧ w = .int y ∧ (cmpH k x.toInt y.toInt → ∃ G' ∈ L, GS G' g) := by
  unfold rfI at hL
  split at hL
  · rename_i p q hp hq
    obtain ⟨x, e1, h1⟩ := ivI_ok hG ha hp
    obtain ⟨y, e2, h2⟩ := ivI_ok hG hb hq
    cases hL
    subst e1; subst e2
    exact ⟨x, y, rfl, rfl, fun h => rfX_ok hG ha hb rfl rfl h1 h2 h⟩
  · cases hL
theorem rfL_ok {k : Nat} {G : GI} {g : List Int} {V : EV} {a b : AV} {v w : Value} {L : List GI} (hG : GS G g) (ha : gam g V a v) (hb : gam g V b w) (hL : rfL k G a b = some L) : ∃ x y : Int64, v = .long x ∧ w = .long y ∧ (cmpH k x.toInt y.toInt → ∃ G' ∈ L, GS G' g) := by
  unfold rfL at hL
  split at hL
  · rename_i p q hp hq
    obtain ⟨x, e1, h1⟩ := ivL_ok hG ha hp
    obtain ⟨y, e2, h2⟩ := ivL_ok hG hb hq
    cases hL
    subst e1; subst e2
    exact ⟨x, y, rfl, rfl, fun h => rfX_ok hG ha hb rfl rfl h1 h2 h⟩
  · cases hL
end
section
def RX0 : String := "RookHusting$Acts"
def TX0 : u_T := fun k => match k with
  | 0 => ("RookHusting$Acts", "size", "I", false)
  | 1 => ("RookHusting$Acts", "kinds", "[I", true)
  | 2 => ("RookHusting$Acts", "fields", "[I", true)
  | _ => ("RookHusting$Acts", "values", "[I", true)
def tyX0 : Nat → FieldType := fun k => match k with
  | 0 => .int
  | 1 => .array .int
  | 2 => .array .int
  | _ => .array .int
theorem nmX0 : ∀ a, a < 4 → ∀ b, b < 4 → a ≠ b → (TX0 a).2.1 ≠ (TX0 b).2.1 := by decide +kernel
theorem tyX0_ok : ∀ k, k < 4 → parseFieldDescriptor (TX0 k).2.2.1 = some (tyX0 k) := by decide +kernel
abbrev cX0_init : ByteArray := prog_2_method_1_code
def yX0_init : MethodName := ⟨RX0, "<init>", "()V"⟩
abbrev cX0_add : ByteArray := prog_2_method_2_code
def yX0_add : MethodName := ⟨RX0, "add", "(III)V"⟩
abbrev cX0_playOn : ByteArray := prog_2_method_3_code
def yX0_playOn : MethodName := ⟨RX0, "playOn", "(LRookHusting$Scene;Z)V"⟩
abbrev cX0_copyFrom : ByteArray := prog_2_method_4_code
def yX0_copyFrom : MethodName := ⟨RX0, "copyFrom", "(LRookHusting$Acts;)V"⟩
def RX1 : String := "RookHusting$Election"
def TX1 : u_T := fun k => match k with
  | 0 => ("RookHusting$Election", "told", "LRookHusting$Hundred;", true)
  | _ => ("RookHusting$Election", "feigned", "[I", true)
def tyX1 : Nat → FieldType := fun k => match k with
  | 0 => .object "RookHusting$Hundred"
  | _ => .array .int
theorem nmX1 : ∀ a, a < 2 → ∀ b, b < 2 → a ≠ b → (TX1 a).2.1 ≠ (TX1 b).2.1 := by decide +kernel
theorem tyX1_ok : ∀ k, k < 2 → parseFieldDescriptor (TX1 k).2.2.1 = some (tyX1 k) := by decide +kernel
abbrev cX1_init : ByteArray := prog_3_method_1_code
def yX1_init : MethodName := ⟨RX1, "<init>", "(LRookHusting$Hundred;)V"⟩
abbrev cX1_hatsFor : ByteArray := prog_3_method_2_code
def yX1_hatsFor : MethodName := ⟨RX1, "hatsFor", "([IIIII)I"⟩
abbrev cX1_winner : ByteArray := prog_3_method_3_code
def yX1_winner : MethodName := ⟨RX1, "winner", "([IIII)I"⟩
abbrev cX1_firstOfMost : ByteArray := prog_3_method_4_code
def yX1_firstOfMost : MethodName := ⟨RX1, "firstOfMost", "([IIII)I"⟩
abbrev cX1_lastOfFewest : ByteArray := prog_3_method_5_code
def yX1_lastOfFewest : MethodName := ⟨RX1, "lastOfFewest", "([III)I"⟩
abbrev cX1_allMen : ByteArray := prog_3_method_6_code
def yX1_allMen : MethodName := ⟨RX1, "allMen", "()I"⟩
abbrev cX1_winnerOfAll : ByteArray := prog_3_method_7_code
def yX1_winnerOfAll : MethodName := ⟨RX1, "winnerOfAll", "(I)I"⟩
abbrev cX1_fillFields : ByteArray := prog_3_method_8_code
def yX1_fillFields : MethodName := ⟨RX1, "fillFields", "([II)V"⟩
abbrev cX1_isWantedMore : ByteArray := prog_3_method_9_code
def yX1_isWantedMore : MethodName := ⟨RX1, "isWantedMore", "(III)Z"⟩
abbrev cX1_hatsOver : ByteArray := prog_3_method_10_code
def yX1_hatsOver : MethodName := ⟨RX1, "hatsOver", "(II)I"⟩
abbrev cX1_isOver : ByteArray := prog_3_method_11_code
def yX1_isOver : MethodName := ⟨RX1, "isOver", "(II)Z"⟩
abbrev cX1_manOverAll : ByteArray := prog_3_method_12_code
def yX1_manOverAll : MethodName := ⟨RX1, "manOverAll", "()I"⟩
abbrev cX1_countRings : ByteArray := prog_3_method_13_code
def yX1_countRings : MethodName := ⟨RX1, "countRings", "()I"⟩
abbrev cX1_isRing : ByteArray := prog_3_method_14_code
def yX1_isRing : MethodName := ⟨RX1, "isRing", "(III)Z"⟩
abbrev cX1_hatsOf : ByteArray := prog_3_method_15_code
def yX1_hatsOf : MethodName := ⟨RX1, "hatsOf", "(I)I"⟩
abbrev cX1_fewestAway : ByteArray := prog_3_method_16_code
def yX1_fewestAway : MethodName := ⟨RX1, "fewestAway", "(I)I"⟩
abbrev cX1_isGainer : ByteArray := prog_3_method_17_code
def yX1_isGainer : MethodName := ⟨RX1, "isGainer", "(I)Z"⟩
abbrev cX1_gainsBehind : ByteArray := prog_3_method_18_code
def yX1_gainsBehind : MethodName := ⟨RX1, "gainsBehind", "(IIII)Z"⟩
abbrev cX1_ordersDecided : ByteArray := prog_3_method_19_code
def yX1_ordersDecided : MethodName := ⟨RX1, "ordersDecided", "(I)I"⟩
abbrev cX1_hatsFirst : ByteArray := prog_3_method_20_code
def yX1_hatsFirst : MethodName := ⟨RX1, "hatsFirst", "(I)I"⟩
abbrev cX1_hatsWithout : ByteArray := prog_3_method_21_code
def yX1_hatsWithout : MethodName := ⟨RX1, "hatsWithout", "(I)I"⟩
abbrev cX1_swingVoters : ByteArray := prog_3_method_22_code
def yX1_swingVoters : MethodName := ⟨RX1, "swingVoters", "()I"⟩
def RX2 : String := "RookHusting$Guesses"
def TX2 : u_T := fun k => match k with
  | 0 => ("RookHusting$Guesses", "fitting", "I", false)
  | 1 => ("RookHusting$Guesses", "question", "I", false)
  | 2 => ("RookHusting$Guesses", "left", "I", false)
  | _ => ("RookHusting$Guesses", "rooks", "[I", true)
def tyX2 : Nat → FieldType := fun k => match k with
  | 0 => .int
  | 1 => .int
  | 2 => .int
  | _ => .array .int
theorem nmX2 : ∀ a, a < 4 → ∀ b, b < 4 → a ≠ b → (TX2 a).2.1 ≠ (TX2 b).2.1 := by decide +kernel
theorem tyX2_ok : ∀ k, k < 4 → parseFieldDescriptor (TX2 k).2.2.1 = some (tyX2 k) := by decide +kernel
abbrev cX2_init : ByteArray := prog_4_method_1_code
def yX2_init : MethodName := ⟨RX2, "<init>", "()V"⟩
abbrev cX2_keep : ByteArray := prog_4_method_2_code
def yX2_keep : MethodName := ⟨RX2, "keep", "(I[I)V"⟩
abbrev cX2_findQuestion : ByteArray := prog_4_method_3_code
def yX2_findQuestion : MethodName := ⟨RX2, "findQuestion", "(II)V"⟩
abbrev cX2_mostAlike : ByteArray := prog_4_method_4_code
def yX2_mostAlike : MethodName := ⟨RX2, "mostAlike", "(I)I"⟩
abbrev cX2_countAlike : ByteArray := prog_4_method_5_code
def yX2_countAlike : MethodName := ⟨RX2, "countAlike", "(II)I"⟩
def RX3 : String := "RookHusting$Harvest"
def TX3 : u_T := fun k => match k with
  | 0 => ("RookHusting$Harvest", "fear", "[I", true)
  | 1 => ("RookHusting$Harvest", "rooks", "[I", true)
  | 2 => ("RookHusting$Harvest", "corn", "[I", true)
  | 3 => ("RookHusting$Harvest", "eaten", "[I", true)
  | 4 => ("RookHusting$Harvest", "flown", "[I", true)
  | 5 => ("RookHusting$Harvest", "goal", "[I", true)
  | 6 => ("RookHusting$Harvest", "since", "[I", true)
  | 7 => ("RookHusting$Harvest", "fields", "I", false)
  | _ => ("RookHusting$Harvest", "lastDay", "I", false)
def tyX3 : Nat → FieldType := fun k => match k with
  | 0 => .array .int
  | 1 => .array .int
  | 2 => .array .int
  | 3 => .array .int
  | 4 => .array .int
  | 5 => .array .int
  | 6 => .array .int
  | 7 => .int
  | _ => .int
theorem nmX3 : ∀ a, a < 9 → ∀ b, b < 9 → a ≠ b → (TX3 a).2.1 ≠ (TX3 b).2.1 := by decide +kernel
theorem tyX3_ok : ∀ k, k < 9 → parseFieldDescriptor (TX3 k).2.2.1 = some (tyX3 k) := by decide +kernel
abbrev cX3_init : ByteArray := prog_5_method_1_code
def yX3_init : MethodName := ⟨RX3, "<init>", "()V"⟩
abbrev cX3_passDays : ByteArray := prog_5_method_2_code
def yX3_passDays : MethodName := ⟨RX3, "passDays", "(LRookHusting$Hundred;LRookHusting$Scene;I)V"⟩
abbrev cX3_frighten : ByteArray := prog_5_method_3_code
def yX3_frighten : MethodName := ⟨RX3, "frighten", "(LRookHusting$Hundred;LRookHusting$Scene;I)V"⟩
abbrev cX3_beginNextDay : ByteArray := prog_5_method_4_code
def yX3_beginNextDay : MethodName := ⟨RX3, "beginNextDay", "(I)V"⟩
abbrev cX3_eatAndFly : ByteArray := prog_5_method_5_code
def yX3_eatAndFly : MethodName := ⟨RX3, "eatAndFly", "(LRookHusting$Scene;I)V"⟩
abbrev cX3_leastFeared : ByteArray := prog_5_method_6_code
def yX3_leastFeared : MethodName := ⟨RX3, "leastFeared", "(II)I"⟩
abbrev cX3_sumOf : ByteArray := prog_5_method_7_code
def yX3_sumOf : MethodName := ⟨RX3, "sumOf", "([II)I"⟩
abbrev cX3_fieldOfMost : ByteArray := prog_5_method_8_code
def yX3_fieldOfMost : MethodName := ⟨RX3, "fieldOfMost", "([II)I"⟩
abbrev cX3_firstZero : ByteArray := prog_5_method_9_code
def yX3_firstZero : MethodName := ⟨RX3, "firstZero", "([II)I"⟩
abbrev cX3_daysEaten : ByteArray := prog_5_method_10_code
def yX3_daysEaten : MethodName := ⟨RX3, "daysEaten", "(I)I"⟩
abbrev cX3_mostRooks : ByteArray := prog_5_method_11_code
def yX3_mostRooks : MethodName := ⟨RX3, "mostRooks", "(I)I"⟩
def RX4 : String := "RookHusting$Hundred"
def TX4 : u_T := fun k => match k with
  | 0 => ("RookHusting$Hundred", "lines", "I", false)
  | 1 => ("RookHusting$Hundred", "days", "I", false)
  | 2 => ("RookHusting$Hundred", "law", "I", false)
  | 3 => ("RookHusting$Hundred", "odds", "I", false)
  | 4 => ("RookHusting$Hundred", "fields", "I", false)
  | 5 => ("RookHusting$Hundred", "hedges", "I", false)
  | 6 => ("RookHusting$Hundred", "men", "I", false)
  | 7 => ("RookHusting$Hundred", "voters", "I", false)
  | 8 => ("RookHusting$Hundred", "corn", "[I", true)
  | 9 => ("RookHusting$Hundred", "rooks", "[I", true)
  | 10 => ("RookHusting$Hundred", "joined", "[I", true)
  | 11 => ("RookHusting$Hundred", "frights", "[I", true)
  | 12 => ("RookHusting$Hundred", "tires", "[I", true)
  | 13 => ("RookHusting$Hundred", "hats", "[I", true)
  | 14 => ("RookHusting$Hundred", "rowLength", "[I", true)
  | 15 => ("RookHusting$Hundred", "rows", "[I", true)
  | _ => ("RookHusting$Hundred", "ahead", "[I", true)
def tyX4 : Nat → FieldType := fun k => match k with
  | 0 => .int
  | 1 => .int
  | 2 => .int
  | 3 => .int
  | 4 => .int
  | 5 => .int
  | 6 => .int
  | 7 => .int
  | 8 => .array .int
  | 9 => .array .int
  | 10 => .array .int
  | 11 => .array .int
  | 12 => .array .int
  | 13 => .array .int
  | 14 => .array .int
  | 15 => .array .int
  | _ => .array .int
theorem nmX4 : ∀ a, a < 17 → ∀ b, b < 17 → a ≠ b → (TX4 a).2.1 ≠ (TX4 b).2.1 := by decide +kernel
theorem tyX4_ok : ∀ k, k < 17 → parseFieldDescriptor (TX4 k).2.2.1 = some (tyX4 k) := by decide +kernel
abbrev cX4_init : ByteArray := prog_6_method_1_code
def yX4_init : MethodName := ⟨RX4, "<init>", "()V"⟩
abbrev cX4_clear : ByteArray := prog_6_method_2_code
def yX4_clear : MethodName := ⟨RX4, "clear", "()V"⟩
abbrev cX4_addField : ByteArray := prog_6_method_3_code
def yX4_addField : MethodName := ⟨RX4, "addField", "(II)V"⟩
abbrev cX4_addHedge : ByteArray := prog_6_method_4_code
def yX4_addHedge : MethodName := ⟨RX4, "addHedge", "(II)V"⟩
abbrev cX4_addMan : ByteArray := prog_6_method_5_code
def yX4_addMan : MethodName := ⟨RX4, "addMan", "(II)V"⟩
abbrev cX4_addVoter : ByteArray := prog_6_method_6_code
def yX4_addVoter : MethodName := ⟨RX4, "addVoter", "(I)V"⟩
abbrev cX4_addWant : ByteArray := prog_6_method_7_code
def yX4_addWant : MethodName := ⟨RX4, "addWant", "(I)V"⟩
abbrev cX4_copyFrom : ByteArray := prog_6_method_8_code
def yX4_copyFrom : MethodName := ⟨RX4, "copyFrom", "(LRookHusting$Hundred;)V"⟩
def RX5 : String := "RookHusting$PutSearch"
def TX5 : u_T := fun k => match k with
  | 0 => ("RookHusting$PutSearch", "first", "[I", true)
  | 1 => ("RookHusting$PutSearch", "corn", "I", false)
  | 2 => ("RookHusting$PutSearch", "rows", "I", false)
  | 3 => ("RookHusting$PutSearch", "men", "I", false)
  | 4 => ("RookHusting$PutSearch", "known", "Z", false)
  | 5 => ("RookHusting$PutSearch", "told", "LRookHusting$Hundred;", true)
  | 6 => ("RookHusting$PutSearch", "trial", "LRookHusting$Scene;", true)
  | _ => ("RookHusting$PutSearch", "tried", "LRookHusting$Harvest;", true)
def tyX5 : Nat → FieldType := fun k => match k with
  | 0 => .array .int
  | 1 => .int
  | 2 => .int
  | 3 => .int
  | 4 => .boolean
  | 5 => .object "RookHusting$Hundred"
  | 6 => .object "RookHusting$Scene"
  | _ => .object "RookHusting$Harvest"
theorem nmX5 : ∀ a, a < 8 → ∀ b, b < 8 → a ≠ b → (TX5 a).2.1 ≠ (TX5 b).2.1 := by decide +kernel
theorem tyX5_ok : ∀ k, k < 8 → parseFieldDescriptor (TX5 k).2.2.1 = some (tyX5 k) := by decide +kernel
abbrev cX5_init : ByteArray := prog_7_method_1_code
def yX5_init : MethodName := ⟨RX5, "<init>", "(LRookHusting$Hundred;LRookHusting$Scene;LRookHusting$Harvest;)V"⟩
abbrev cX5_searchFrom : ByteArray := prog_7_method_2_code
def yX5_searchFrom : MethodName := ⟨RX5, "searchFrom", "(LRookHusting$Scene;)V"⟩
abbrev cX5_fillFrom : ByteArray := prog_7_method_3_code
def yX5_fillFrom : MethodName := ⟨RX5, "fillFrom", "(II)V"⟩
abbrev cX5_weighRow : ByteArray := prog_7_method_4_code
def yX5_weighRow : MethodName := ⟨RX5, "weighRow", "(I)V"⟩
def RX6 : String := "RookHusting$Reader"
def TX6 : u_T := fun k => match k with
  | 0 => ("RookHusting$Reader", "draft", "LRookHusting$Hundred;", true)
  | 1 => ("RookHusting$Reader", "fault", "I", false)
  | 2 => ("RookHusting$Reader", "place", "I", false)
  | _ => ("RookHusting$Reader", "tape", "LRookHusting$Tape;", true)
def tyX6 : Nat → FieldType := fun k => match k with
  | 0 => .object "RookHusting$Hundred"
  | 1 => .int
  | 2 => .int
  | _ => .object "RookHusting$Tape"
theorem nmX6 : ∀ a, a < 4 → ∀ b, b < 4 → a ≠ b → (TX6 a).2.1 ≠ (TX6 b).2.1 := by decide +kernel
theorem tyX6_ok : ∀ k, k < 4 → parseFieldDescriptor (TX6 k).2.2.1 = some (tyX6 k) := by decide +kernel
abbrev cX6_init : ByteArray := prog_8_method_1_code
def yX6_init : MethodName := ⟨RX6, "<init>", "(LRookHusting$Tape;)V"⟩
abbrev cX6_begin : ByteArray := prog_8_method_2_code
def yX6_begin : MethodName := ⟨RX6, "begin", "()V"⟩
abbrev cX6_hasMore : ByteArray := prog_8_method_3_code
def yX6_hasMore : MethodName := ⟨RX6, "hasMore", "()Z"⟩
abbrev cX6_readLine : ByteArray := prog_8_method_4_code
def yX6_readLine : MethodName := ⟨RX6, "readLine", "()V"⟩
abbrev cX6_readHead : ByteArray := prog_8_method_5_code
def yX6_readHead : MethodName := ⟨RX6, "readHead", "()V"⟩
abbrev cX6_readField : ByteArray := prog_8_method_6_code
def yX6_readField : MethodName := ⟨RX6, "readField", "()V"⟩
abbrev cX6_readHedge : ByteArray := prog_8_method_7_code
def yX6_readHedge : MethodName := ⟨RX6, "readHedge", "()V"⟩
abbrev cX6_readMan : ByteArray := prog_8_method_8_code
def yX6_readMan : MethodName := ⟨RX6, "readMan", "()V"⟩
abbrev cX6_readVoter : ByteArray := prog_8_method_9_code
def yX6_readVoter : MethodName := ⟨RX6, "readVoter", "()V"⟩
abbrev cX6_takeWord : ByteArray := prog_8_method_10_code
def yX6_takeWord : MethodName := ⟨RX6, "takeWord", "(Ljava/lang/String;)V"⟩
abbrev cX6_takeSign : ByteArray := prog_8_method_11_code
def yX6_takeSign : MethodName := ⟨RX6, "takeSign", "()V"⟩
abbrev cX6_takeNamed : ByteArray := prog_8_method_12_code
def yX6_takeNamed : MethodName := ⟨RX6, "takeNamed", "(Ljava/lang/String;II)I"⟩
abbrev cX6_takeNumber : ByteArray := prog_8_method_13_code
def yX6_takeNumber : MethodName := ⟨RX6, "takeNumber", "(III)I"⟩
abbrev cX6_blame : ByteArray := prog_8_method_14_code
def yX6_blame : MethodName := ⟨RX6, "blame", "(I)V"⟩
def RX7 : String := "RookHusting$Scene"
def TX7 : u_T := fun k => match k with
  | 0 => ("RookHusting$Scene", "standing", "[I", true)
  | 1 => ("RookHusting$Scene", "speeches", "[I", true)
  | 2 => ("RookHusting$Scene", "joined", "[I", true)
  | _ => ("RookHusting$Scene", "wind", "I", false)
def tyX7 : Nat → FieldType := fun k => match k with
  | 0 => .array .int
  | 1 => .array .int
  | 2 => .array .int
  | _ => .int
theorem nmX7 : ∀ a, a < 4 → ∀ b, b < 4 → a ≠ b → (TX7 a).2.1 ≠ (TX7 b).2.1 := by decide +kernel
theorem tyX7_ok : ∀ k, k < 4 → parseFieldDescriptor (TX7 k).2.2.1 = some (tyX7 k) := by decide +kernel
abbrev cX7_init : ByteArray := prog_9_method_1_code
def yX7_init : MethodName := ⟨RX7, "<init>", "()V"⟩
abbrev cX7_begin : ByteArray := prog_9_method_2_code
def yX7_begin : MethodName := ⟨RX7, "begin", "(LRookHusting$Hundred;)V"⟩
abbrev cX7_copyFrom : ByteArray := prog_9_method_3_code
def yX7_copyFrom : MethodName := ⟨RX7, "copyFrom", "(LRookHusting$Scene;)V"⟩
abbrev cX7_placeOf : ByteArray := prog_9_method_4_code
def yX7_placeOf : MethodName := ⟨RX7, "placeOf", "(I)I"⟩
abbrev cX7_placeMan : ByteArray := prog_9_method_5_code
def yX7_placeMan : MethodName := ⟨RX7, "placeMan", "(II)V"⟩
def RX8 : String := "RookHusting$Slots"
def TX8 : u_T := fun k => match k with
  | 0 => ("RookHusting$Slots", "numbers", "[J", true)
  | 1 => ("RookHusting$Slots", "widths", "[I", true)
  | _ => ("RookHusting$Slots", "lengths", "[I", true)
def tyX8 : Nat → FieldType := fun k => match k with
  | 0 => .array .long
  | 1 => .array .int
  | _ => .array .int
theorem nmX8 : ∀ a, a < 3 → ∀ b, b < 3 → a ≠ b → (TX8 a).2.1 ≠ (TX8 b).2.1 := by decide +kernel
theorem tyX8_ok : ∀ k, k < 3 → parseFieldDescriptor (TX8 k).2.2.1 = some (tyX8 k) := by decide +kernel
abbrev cX8_init : ByteArray := prog_10_method_1_code
def yX8_init : MethodName := ⟨RX8, "<init>", "()V"⟩
abbrev cX8_isSlot : ByteArray := prog_10_method_2_code
def yX8_isSlot : MethodName := ⟨RX8, "isSlot", "(I)Z"⟩
abbrev cX8_hasRow : ByteArray := prog_10_method_3_code
def yX8_hasRow : MethodName := ⟨RX8, "hasRow", "(I)Z"⟩
abbrev cX8_countRows : ByteArray := prog_10_method_4_code
def yX8_countRows : MethodName := ⟨RX8, "countRows", "()I"⟩
abbrev cX8_renew : ByteArray := prog_10_method_5_code
def yX8_renew : MethodName := ⟨RX8, "renew", "(III)V"⟩
abbrev cX8_at : ByteArray := prog_10_method_6_code
def yX8_at : MethodName := ⟨RX8, "at", "(II)J"⟩
abbrev cX8_set : ByteArray := prog_10_method_7_code
def yX8_set : MethodName := ⟨RX8, "set", "(IIJ)V"⟩
abbrev cX8_cut : ByteArray := prog_10_method_8_code
def yX8_cut : MethodName := ⟨RX8, "cut", "(JI)J"⟩
abbrev cX8_holds : ByteArray := prog_10_method_9_code
def yX8_holds : MethodName := ⟨RX8, "holds", "(III)Z"⟩
def RX9 : String := "RookHusting$State"
def TX9 : u_T := fun k => match k with
  | 0 => ("RookHusting$State", "told", "LRookHusting$Hundred;", true)
  | _ => ("RookHusting$State", "acts", "LRookHusting$Acts;", true)
def tyX9 : Nat → FieldType := fun k => match k with
  | 0 => .object "RookHusting$Hundred"
  | _ => .object "RookHusting$Acts"
theorem nmX9 : ∀ a, a < 2 → ∀ b, b < 2 → a ≠ b → (TX9 a).2.1 ≠ (TX9 b).2.1 := by decide +kernel
theorem tyX9_ok : ∀ k, k < 2 → parseFieldDescriptor (TX9 k).2.2.1 = some (tyX9 k) := by decide +kernel
abbrev cX9_init : ByteArray := prog_11_method_1_code
def yX9_init : MethodName := ⟨RX9, "<init>", "()V"⟩
abbrev cX9_copyFrom : ByteArray := prog_11_method_2_code
def yX9_copyFrom : MethodName := ⟨RX9, "copyFrom", "(LRookHusting$State;)V"⟩
def RX10 : String := "RookHusting$Tape"
def TX10 : u_T := fun k => match k with
  | 0 => ("RookHusting$Tape", "bytes", "[B", true)
  | 1 => ("RookHusting$Tape", "length", "I", false)
  | 2 => ("RookHusting$Tape", "kind", "I", false)
  | 3 => ("RookHusting$Tape", "start", "I", false)
  | 4 => ("RookHusting$Tape", "number", "I", false)
  | _ => ("RookHusting$Tape", "at", "I", false)
def tyX10 : Nat → FieldType := fun k => match k with
  | 0 => .array .byte
  | 1 => .int
  | 2 => .int
  | 3 => .int
  | 4 => .int
  | _ => .int
theorem nmX10 : ∀ a, a < 6 → ∀ b, b < 6 → a ≠ b → (TX10 a).2.1 ≠ (TX10 b).2.1 := by decide +kernel
theorem tyX10_ok : ∀ k, k < 6 → parseFieldDescriptor (TX10 k).2.2.1 = some (tyX10 k) := by decide +kernel
abbrev cX10_init : ByteArray := prog_12_method_1_code
def yX10_init : MethodName := ⟨RX10, "<init>", "()V"⟩
abbrev cX10_append : ByteArray := prog_12_method_2_code
def yX10_append : MethodName := ⟨RX10, "append", "(I)V"⟩
abbrev cX10_rewind : ByteArray := prog_12_method_3_code
def yX10_rewind : MethodName := ⟨RX10, "rewind", "()V"⟩
abbrev cX10_step : ByteArray := prog_12_method_4_code
def yX10_step : MethodName := ⟨RX10, "step", "()V"⟩
abbrev cX10_isAtWord : ByteArray := prog_12_method_5_code
def yX10_isAtWord : MethodName := ⟨RX10, "isAtWord", "(Ljava/lang/String;)Z"⟩
abbrev cX10_isBlank : ByteArray := prog_12_method_6_code
def yX10_isBlank : MethodName := ⟨RX10, "isBlank", "(B)Z"⟩
abbrev cX10_isLetter : ByteArray := prog_12_method_7_code
def yX10_isLetter : MethodName := ⟨RX10, "isLetter", "(B)Z"⟩
abbrev cX10_isDigit : ByteArray := prog_12_method_8_code
def yX10_isDigit : MethodName := ⟨RX10, "isDigit", "(B)Z"⟩
def RX11 : String := "RookHusting"
def TX11 : u_T := fun k => match k with
  | 0 => ("RookHusting", "tape", "LRookHusting$Tape;", true)
  | 1 => ("RookHusting", "reader", "LRookHusting$Reader;", true)
  | 2 => ("RookHusting", "state", "LRookHusting$State;", true)
  | 3 => ("RookHusting", "images", "[LRookHusting$State;", true)
  | 4 => ("RookHusting", "slots", "LRookHusting$Slots;", true)
  | 5 => ("RookHusting", "election", "LRookHusting$Election;", true)
  | 6 => ("RookHusting", "now", "LRookHusting$Scene;", true)
  | 7 => ("RookHusting", "trial", "LRookHusting$Scene;", true)
  | 8 => ("RookHusting", "harvest", "LRookHusting$Harvest;", true)
  | 9 => ("RookHusting", "tried", "LRookHusting$Harvest;", true)
  | 10 => ("RookHusting", "search", "LRookHusting$PutSearch;", true)
  | 11 => ("RookHusting", "guesses", "LRookHusting$Guesses;", true)
  | 12 => ("RookHusting", "keptImages", "I", false)
  | 13 => ("RookHusting", "settled", "Z", false)
  | 14 => ("RookHusting", "plainKnown", "Z", false)
  | _ => ("RookHusting", "plainVoters", "I", false)
def tyX11 : Nat → FieldType := fun k => match k with
  | 0 => .object "RookHusting$Tape"
  | 1 => .object "RookHusting$Reader"
  | 2 => .object "RookHusting$State"
  | 3 => .array (.object "RookHusting$State")
  | 4 => .object "RookHusting$Slots"
  | 5 => .object "RookHusting$Election"
  | 6 => .object "RookHusting$Scene"
  | 7 => .object "RookHusting$Scene"
  | 8 => .object "RookHusting$Harvest"
  | 9 => .object "RookHusting$Harvest"
  | 10 => .object "RookHusting$PutSearch"
  | 11 => .object "RookHusting$Guesses"
  | 12 => .int
  | 13 => .boolean
  | 14 => .boolean
  | _ => .int
theorem nmX11 : ∀ a, a < 16 → ∀ b, b < 16 → a ≠ b → (TX11 a).2.1 ≠ (TX11 b).2.1 := by decide +kernel
theorem tyX11_ok : ∀ k, k < 16 → parseFieldDescriptor (TX11 k).2.2.1 = some (tyX11 k) := by decide +kernel
abbrev cX11_init : ByteArray := prog_1_method_1_code
def yX11_init : MethodName := ⟨RX11, "<init>", "()V"⟩
abbrev cX11_feed : ByteArray := prog_1_method_2_code
def yX11_feed : MethodName := ⟨RX11, "feed", "(IIIII)I"⟩
abbrev cX11_end : ByteArray := prog_1_method_3_code
def yX11_end : MethodName := ⟨RX11, "end", "(I)I"⟩
abbrev cX11_hundred : ByteArray := prog_1_method_4_code
def yX11_hundred : MethodName := ⟨RX11, "hundred", "()I"⟩
abbrev cX11_fault : ByteArray := prog_1_method_5_code
def yX11_fault : MethodName := ⟨RX11, "fault", "(I)I"⟩
abbrev cX11_field : ByteArray := prog_1_method_6_code
def yX11_field : MethodName := ⟨RX11, "field", "(II)I"⟩
abbrev cX11_hedges : ByteArray := prog_1_method_7_code
def yX11_hedges : MethodName := ⟨RX11, "hedges", "(I)I"⟩
abbrev cX11_man : ByteArray := prog_1_method_8_code
def yX11_man : MethodName := ⟨RX11, "man", "(II)I"⟩
abbrev cX11_hats : ByteArray := prog_1_method_9_code
def yX11_hats : MethodName := ⟨RX11, "hats", "(I)I"⟩
abbrev cX11_wants : ByteArray := prog_1_method_10_code
def yX11_wants : MethodName := ⟨RX11, "wants", "(II)I"⟩
abbrev cX11_votes : ByteArray := prog_1_method_11_code
def yX11_votes : MethodName := ⟨RX11, "votes", "(III)I"⟩
abbrev cX11_elects : ByteArray := prog_1_method_12_code
def yX11_elects : MethodName := ⟨RX11, "elects", "(II)I"⟩
abbrev cX11_elected : ByteArray := prog_1_method_13_code
def yX11_elected : MethodName := ⟨RX11, "elected", "(I)I"⟩
abbrev cX11_stands : ByteArray := prog_1_method_14_code
def yX11_stands : MethodName := ⟨RX11, "stands", "(I)I"⟩
abbrev cX11_where : ByteArray := prog_1_method_15_code
def yX11_where : MethodName := ⟨RX11, "where", "(I)I"⟩
abbrev cX11_over : ByteArray := prog_1_method_16_code
def yX11_over : MethodName := ⟨RX11, "over", "(II)I"⟩
abbrev cX11_beats : ByteArray := prog_1_method_17_code
def yX11_beats : MethodName := ⟨RX11, "beats", "()I"⟩
abbrev cX11_rings : ByteArray := prog_1_method_18_code
def yX11_rings : MethodName := ⟨RX11, "rings", "()I"⟩
abbrev cX11_least : ByteArray := prog_1_method_19_code
def yX11_least : MethodName := ⟨RX11, "least", "(I)I"⟩
abbrev cX11_gains : ByteArray := prog_1_method_20_code
def yX11_gains : MethodName := ⟨RX11, "gains", "(I)I"⟩
abbrev cX11_plain : ByteArray := prog_1_method_21_code
def yX11_plain : MethodName := ⟨RX11, "plain", "()I"⟩
abbrev cX11_power : ByteArray := prog_1_method_22_code
def yX11_power : MethodName := ⟨RX11, "power", "(II)I"⟩
abbrev cX11_loved : ByteArray := prog_1_method_23_code
def yX11_loved : MethodName := ⟨RX11, "loved", "(I)I"⟩
abbrev cX11_shunned : ByteArray := prog_1_method_24_code
def yX11_shunned : MethodName := ⟨RX11, "shunned", "(I)I"⟩
abbrev cX11_swings : ByteArray := prog_1_method_25_code
def yX11_swings : MethodName := ⟨RX11, "swings", "()I"⟩
abbrev cX11_fear : ByteArray := prog_1_method_26_code
def yX11_fear : MethodName := ⟨RX11, "fear", "(II)I"⟩
abbrev cX11_rooks : ByteArray := prog_1_method_27_code
def yX11_rooks : MethodName := ⟨RX11, "rooks", "(II)I"⟩
abbrev cX11_corn : ByteArray := prog_1_method_28_code
def yX11_corn : MethodName := ⟨RX11, "corn", "(II)I"⟩
abbrev cX11_eaten : ByteArray := prog_1_method_29_code
def yX11_eaten : MethodName := ⟨RX11, "eaten", "(II)I"⟩
abbrev cX11_flies : ByteArray := prog_1_method_30_code
def yX11_flies : MethodName := ⟨RX11, "flies", "(II)I"⟩
abbrev cX11_all : ByteArray := prog_1_method_31_code
def yX11_all : MethodName := ⟨RX11, "all", "(I)I"⟩
abbrev cX11_black : ByteArray := prog_1_method_32_code
def yX11_black : MethodName := ⟨RX11, "black", "(I)I"⟩
abbrev cX11_richest : ByteArray := prog_1_method_33_code
def yX11_richest : MethodName := ⟨RX11, "richest", "(I)I"⟩
abbrev cX11_shoulder : ByteArray := prog_1_method_34_code
def yX11_shoulder : MethodName := ⟨RX11, "shoulder", "(I)I"⟩
abbrev cX11_bare : ByteArray := prog_1_method_35_code
def yX11_bare : MethodName := ⟨RX11, "bare", "(I)I"⟩
abbrev cX11_kept : ByteArray := prog_1_method_36_code
def yX11_kept : MethodName := ⟨RX11, "kept", "()I"⟩
abbrev cX11_worst : ByteArray := prog_1_method_37_code
def yX11_worst : MethodName := ⟨RX11, "worst", "()I"⟩
abbrev cX11_tired : ByteArray := prog_1_method_38_code
def yX11_tired : MethodName := ⟨RX11, "tired", "(I)I"⟩
abbrev cX11_guards : ByteArray := prog_1_method_39_code
def yX11_guards : MethodName := ⟨RX11, "guards", "()I"⟩
abbrev cX11_eats : ByteArray := prog_1_method_40_code
def yX11_eats : MethodName := ⟨RX11, "eats", "(I)I"⟩
abbrev cX11_quiet : ByteArray := prog_1_method_41_code
def yX11_quiet : MethodName := ⟨RX11, "quiet", "(I)I"⟩
abbrev cX11_peace : ByteArray := prog_1_method_42_code
def yX11_peace : MethodName := ⟨RX11, "peace", "()I"⟩
abbrev cX11_bold : ByteArray := prog_1_method_43_code
def yX11_bold : MethodName := ⟨RX11, "bold", "(I)I"⟩
abbrev cX11_most : ByteArray := prog_1_method_44_code
def yX11_most : MethodName := ⟨RX11, "most", "(I)I"⟩
abbrev cX11_flown : ByteArray := prog_1_method_45_code
def yX11_flown : MethodName := ⟨RX11, "flown", "(I)I"⟩
abbrev cX11_best : ByteArray := prog_1_method_46_code
def yX11_best : MethodName := ⟨RX11, "best", "()I"⟩
abbrev cX11_put : ByteArray := prog_1_method_47_code
def yX11_put : MethodName := ⟨RX11, "put", "(I)I"⟩
abbrev cX11_ways : ByteArray := prog_1_method_48_code
def yX11_ways : MethodName := ⟨RX11, "ways", "()I"⟩
abbrev cX11_fewest : ByteArray := prog_1_method_49_code
def yX11_fewest : MethodName := ⟨RX11, "fewest", "()I"⟩
abbrev cX11_by : ByteArray := prog_1_method_50_code
def yX11_by : MethodName := ⟨RX11, "by", "(I)I"⟩
abbrev cX11_law : ByteArray := prog_1_method_51_code
def yX11_law : MethodName := ⟨RX11, "law", "()I"⟩
abbrev cX11_speech : ByteArray := prog_1_method_52_code
def yX11_speech : MethodName := ⟨RX11, "speech", "()I"⟩
abbrev cX11_gap : ByteArray := prog_1_method_53_code
def yX11_gap : MethodName := ⟨RX11, "gap", "()I"⟩
abbrev cX11_may : ByteArray := prog_1_method_54_code
def yX11_may : MethodName := ⟨RX11, "may", "(II)I"⟩
abbrev cX11_ask : ByteArray := prog_1_method_55_code
def yX11_ask : MethodName := ⟨RX11, "ask", "(II)I"⟩
abbrev cX11_leaves : ByteArray := prog_1_method_56_code
def yX11_leaves : MethodName := ⟨RX11, "leaves", "(II)I"⟩
abbrev cX11_rests : ByteArray := prog_1_method_57_code
def yX11_rests : MethodName := ⟨RX11, "rests", "(II)I"⟩
abbrev cX11_gets : ByteArray := prog_1_method_58_code
def yX11_gets : MethodName := ⟨RX11, "gets", "(IIII)I"⟩
abbrev cX11_chance : ByteArray := prog_1_method_59_code
def yX11_chance : MethodName := ⟨RX11, "chance", "(IIII)J"⟩
abbrev cX11_mean : ByteArray := prog_1_method_60_code
def yX11_mean : MethodName := ⟨RX11, "mean", "(II)J"⟩
abbrev cX11_drawn : ByteArray := prog_1_method_61_code
def yX11_drawn : MethodName := ⟨RX11, "drawn", "(II)I"⟩
abbrev cX11_luck : ByteArray := prog_1_method_62_code
def yX11_luck : MethodName := ⟨RX11, "luck", "(III)I"⟩
abbrev cX11_puts : ByteArray := prog_1_method_63_code
def yX11_puts : MethodName := ⟨RX11, "puts", "(II)I"⟩
abbrev cX11_speaks : ByteArray := prog_1_method_64_code
def yX11_speaks : MethodName := ⟨RX11, "speaks", "(II)I"⟩
abbrev cX11_undo : ByteArray := prog_1_method_65_code
def yX11_undo : MethodName := ⟨RX11, "undo", "()I"⟩
abbrev cX11_anew : ByteArray := prog_1_method_66_code
def yX11_anew : MethodName := ⟨RX11, "anew", "()I"⟩
abbrev cX11_rate : ByteArray := prog_1_method_67_code
def yX11_rate : MethodName := ⟨RX11, "rate", "(II)I"⟩
abbrev cX11_count : ByteArray := prog_1_method_68_code
def yX11_count : MethodName := ⟨RX11, "count", "(I)I"⟩
abbrev cX11_image : ByteArray := prog_1_method_69_code
def yX11_image : MethodName := ⟨RX11, "image", "(I)I"⟩
abbrev cX11_back : ByteArray := prog_1_method_70_code
def yX11_back : MethodName := ⟨RX11, "back", "(I)I"⟩
abbrev cX11_row : ByteArray := prog_1_method_71_code
def yX11_row : MethodName := ⟨RX11, "row", "(III)I"⟩
abbrev cX11_write : ByteArray := prog_1_method_72_code
def yX11_write : MethodName := ⟨RX11, "write", "(IIJ)I"⟩
abbrev cX11_paste : ByteArray := prog_1_method_73_code
def yX11_paste : MethodName := ⟨RX11, "paste", "(IIIII)I"⟩
abbrev cX11_isTold : ByteArray := prog_1_method_74_code
def yX11_isTold : MethodName := ⟨RX11, "isTold", "()Z"⟩
abbrev cX11_isField : ByteArray := prog_1_method_75_code
def yX11_isField : MethodName := ⟨RX11, "isField", "(I)Z"⟩
abbrev cX11_isMan : ByteArray := prog_1_method_76_code
def yX11_isMan : MethodName := ⟨RX11, "isMan", "(I)Z"⟩
abbrev cX11_isVoter : ByteArray := prog_1_method_77_code
def yX11_isVoter : MethodName := ⟨RX11, "isVoter", "(I)Z"⟩
abbrev cX11_isDay : ByteArray := prog_1_method_78_code
def yX11_isDay : MethodName := ⟨RX11, "isDay", "(I)Z"⟩
abbrev cX11_isEatingDay : ByteArray := prog_1_method_79_code
def yX11_isEatingDay : MethodName := ⟨RX11, "isEatingDay", "(I)Z"⟩
abbrev cX11_isChanceDay : ByteArray := prog_1_method_80_code
def yX11_isChanceDay : MethodName := ⟨RX11, "isChanceDay", "(I)Z"⟩
abbrev cX11_isSet : ByteArray := prog_1_method_81_code
def yX11_isSet : MethodName := ⟨RX11, "isSet", "(I)Z"⟩
abbrev cX11_isLaw : ByteArray := prog_1_method_82_code
def yX11_isLaw : MethodName := ⟨RX11, "isLaw", "(I)Z"⟩
abbrev cX11_isSeed : ByteArray := prog_1_method_83_code
def yX11_isSeed : MethodName := ⟨RX11, "isSeed", "(I)Z"⟩
abbrev cX11_isPair : ByteArray := prog_1_method_84_code
def yX11_isPair : MethodName := ⟨RX11, "isPair", "(I)Z"⟩
abbrev cX11_hasBit : ByteArray := prog_1_method_85_code
def yX11_hasBit : MethodName := ⟨RX11, "hasBit", "(II)Z"⟩
abbrev cX11_forget : ByteArray := prog_1_method_86_code
def yX11_forget : MethodName := ⟨RX11, "forget", "()V"⟩
abbrev cX11_settle : ByteArray := prog_1_method_87_code
def yX11_settle : MethodName := ⟨RX11, "settle", "()V"⟩
abbrev cX11_cellNow : ByteArray := prog_1_method_88_code
def yX11_cellNow : MethodName := ⟨RX11, "cellNow", "([III)I"⟩
abbrev cX11_sumNow : ByteArray := prog_1_method_89_code
def yX11_sumNow : MethodName := ⟨RX11, "sumNow", "([II)I"⟩
abbrev cX11_mostNow : ByteArray := prog_1_method_90_code
def yX11_mostNow : MethodName := ⟨RX11, "mostNow", "([II)I"⟩
abbrev cX11_firstZeroNow : ByteArray := prog_1_method_91_code
def yX11_firstZeroNow : MethodName := ⟨RX11, "firstZeroNow", "([II)I"⟩
abbrev cX11_learnPlain : ByteArray := prog_1_method_92_code
def yX11_learnPlain : MethodName := ⟨RX11, "learnPlain", "()V"⟩
abbrev cX11_leftOnTrial : ByteArray := prog_1_method_93_code
def yX11_leftOnTrial : MethodName := ⟨RX11, "leftOnTrial", "()I"⟩
abbrev cX11_leftByLaw : ByteArray := prog_1_method_94_code
def yX11_leftByLaw : MethodName := ⟨RX11, "leftByLaw", "(I)I"⟩
abbrev cX11_gainOf : ByteArray := prog_1_method_95_code
def yX11_gainOf : MethodName := ⟨RX11, "gainOf", "(IIII)I"⟩
abbrev cX11_wrongSeen : ByteArray := prog_1_method_96_code
def yX11_wrongSeen : MethodName := ⟨RX11, "wrongSeen", "(II)I"⟩
abbrev cX11_isBetween : ByteArray := prog_1_method_97_code
def yX11_isBetween : MethodName := ⟨RX11, "isBetween", "(JI)Z"⟩
abbrev cX11_guessAll : ByteArray := prog_1_method_98_code
def yX11_guessAll : MethodName := ⟨RX11, "guessAll", "(II)V"⟩
abbrev cX11_isAsSeen : ByteArray := prog_1_method_99_code
def yX11_isAsSeen : MethodName := ⟨RX11, "isAsSeen", "(I)Z"⟩
abbrev cX11_windWeight : ByteArray := prog_1_method_100_code
def yX11_windWeight : MethodName := ⟨RX11, "windWeight", "(II)J"⟩
abbrev cX11_power10 : ByteArray := prog_1_method_101_code
def yX11_power10 : MethodName := ⟨RX11, "power10", "(I)J"⟩
abbrev cX11_partOf : ByteArray := prog_1_method_102_code
def yX11_partOf : MethodName := ⟨RX11, "partOf", "(JJI)J"⟩
abbrev cX11_commonDivisor : ByteArray := prog_1_method_103_code
def yX11_commonDivisor : MethodName := ⟨RX11, "commonDivisor", "(JJ)J"⟩
abbrev cX11_drawWind : ByteArray := prog_1_method_104_code
def yX11_drawWind : MethodName := ⟨RX11, "drawWind", "(J)I"⟩
abbrev cX11_drawHarvest : ByteArray := prog_1_method_105_code
def yX11_drawHarvest : MethodName := ⟨RX11, "drawHarvest", "(J)V"⟩
def RX12 : String := "RookHustingModel"
def TX12 : u_T := fun k => match k with
  | 0 => ("RookHustingModel", "thrown", "I", false)
  | 1 => ("RookHustingModel", "world", "[I", true)
  | 2 => ("RookHustingModel", "images", "[I", true)
  | 3 => ("RookHustingModel", "hasImage", "[Z", true)
  | 4 => ("RookHustingModel", "tape", "[B", true)
  | 5 => ("RookHustingModel", "taped", "I", false)
  | 6 => ("RookHustingModel", "five", "[I", true)
  | 7 => ("RookHustingModel", "size", "I", false)
  | 8 => ("RookHustingModel", "at", "I", false)
  | 9 => ("RookHustingModel", "from", "I", false)
  | 10 => ("RookHustingModel", "token", "I", false)
  | 11 => ("RookHustingModel", "value", "I", false)
  | 12 => ("RookHustingModel", "faultKind", "I", false)
  | 13 => ("RookHustingModel", "faultPlace", "I", false)
  | 14 => ("RookHustingModel", "fresh", "[I", true)
  | 15 => ("RookHustingModel", "rowOf", "[I", true)
  | 16 => ("RookHustingModel", "longOf", "[I", true)
  | 17 => ("RookHustingModel", "awaySet", "I", false)
  | 18 => ("RookHustingModel", "electedIn", "[I", true)
  | 19 => ("RookHustingModel", "standsIn", "[I", true)
  | 20 => ("RookHustingModel", "spokeOn", "[I", true)
  | 21 => ("RookHustingModel", "windSet", "I", false)
  | 22 => ("RookHustingModel", "alwaysSet", "I", false)
  | 23 => ("RookHustingModel", "moreOne", "I", false)
  | 24 => ("RookHustingModel", "moreOther", "I", false)
  | 25 => ("RookHustingModel", "fearAt", "[I", true)
  | 26 => ("RookHustingModel", "rooksAt", "[I", true)
  | 27 => ("RookHustingModel", "cornAt", "[I", true)
  | 28 => ("RookHustingModel", "eatenAt", "[I", true)
  | 29 => ("RookHustingModel", "flyAt", "[I", true)
  | 30 => ("RookHustingModel", "flownOn", "[I", true)
  | 31 => ("RookHustingModel", "firstRow", "[I", true)
  | 32 => ("RookHustingModel", "rowMost", "I", false)
  | 33 => ("RookHustingModel", "rowMany", "I", false)
  | 34 => ("RookHustingModel", "rowFewest", "I", false)
  | 35 => ("RookHustingModel", "rooksBy", "[I", true)
  | 36 => ("RookHustingModel", "maySet", "I", false)
  | 37 => ("RookHustingModel", "askWorst", "I", false)
  | 38 => ("RookHustingModel", "oftenAll", "J", false)
  | 39 => ("RookHustingModel", "oftenLeft", "J", false)
  | 40 => ("RookHustingModel", "oftenCorn", "J", false)
  | 41 => ("RookHustingModel", "many", "[I", true)
  | 42 => ("RookHustingModel", "width", "[I", true)
  | 43 => ("RookHustingModel", "numbers", "[J", true)
  | _ => ("RookHustingModel", "moving", "[J", true)
def tyX12 : Nat → FieldType := fun k => match k with
  | 0 => .int
  | 1 => .array .int
  | 2 => .array .int
  | 3 => .array .boolean
  | 4 => .array .byte
  | 5 => .int
  | 6 => .array .int
  | 7 => .int
  | 8 => .int
  | 9 => .int
  | 10 => .int
  | 11 => .int
  | 12 => .int
  | 13 => .int
  | 14 => .array .int
  | 15 => .array .int
  | 16 => .array .int
  | 17 => .int
  | 18 => .array .int
  | 19 => .array .int
  | 20 => .array .int
  | 21 => .int
  | 22 => .int
  | 23 => .int
  | 24 => .int
  | 25 => .array .int
  | 26 => .array .int
  | 27 => .array .int
  | 28 => .array .int
  | 29 => .array .int
  | 30 => .array .int
  | 31 => .array .int
  | 32 => .int
  | 33 => .int
  | 34 => .int
  | 35 => .array .int
  | 36 => .int
  | 37 => .int
  | 38 => .long
  | 39 => .long
  | 40 => .long
  | 41 => .array .int
  | 42 => .array .int
  | 43 => .array .long
  | _ => .array .long
theorem nmX12 : ∀ a, a < 45 → ∀ b, b < 45 → a ≠ b → (TX12 a).2.1 ≠ (TX12 b).2.1 := by decide +kernel
theorem tyX12_ok : ∀ k, k < 45 → parseFieldDescriptor (TX12 k).2.2.1 = some (tyX12 k) := by decide +kernel
abbrev cX12_init : ByteArray := prog_14_method_1_code
def yX12_init : MethodName := ⟨RX12, "<init>", "()V"⟩
abbrev cX12_in : ByteArray := prog_14_method_3_code
def yX12_in : MethodName := ⟨RX12, "in", "(JJJ)Z"⟩
abbrev cX12_bits : ByteArray := prog_14_method_4_code
def yX12_bits : MethodName := ⟨RX12, "bits", "(I)I"⟩
abbrev cX12_bit : ByteArray := prog_14_method_5_code
def yX12_bit : MethodName := ⟨RX12, "bit", "(II)I"⟩
abbrev cX12_image : ByteArray := prog_14_method_6_code
def yX12_image : MethodName := ⟨RX12, "image", "(I)I"⟩
abbrev cX12_back : ByteArray := prog_14_method_7_code
def yX12_back : MethodName := ⟨RX12, "back", "(I)I"⟩
abbrev cX12_isHundred : ByteArray := prog_14_method_8_code
def yX12_isHundred : MethodName := ⟨RX12, "isHundred", "()Z"⟩
abbrev cX12_days : ByteArray := prog_14_method_9_code
def yX12_days : MethodName := ⟨RX12, "days", "()I"⟩
abbrev cX12_fields : ByteArray := prog_14_method_10_code
def yX12_fields : MethodName := ⟨RX12, "fields", "()I"⟩
abbrev cX12_men : ByteArray := prog_14_method_11_code
def yX12_men : MethodName := ⟨RX12, "men", "()I"⟩
abbrev cX12_allMen : ByteArray := prog_14_method_12_code
def yX12_allMen : MethodName := ⟨RX12, "allMen", "()I"⟩
abbrev cX12_isDay : ByteArray := prog_14_method_13_code
def yX12_isDay : MethodName := ⟨RX12, "isDay", "(J)Z"⟩
abbrev cX12_isAhead : ByteArray := prog_14_method_14_code
def yX12_isAhead : MethodName := ⟨RX12, "isAhead", "(J)Z"⟩
abbrev cX12_isField : ByteArray := prog_14_method_15_code
def yX12_isField : MethodName := ⟨RX12, "isField", "(J)Z"⟩
abbrev cX12_isMan : ByteArray := prog_14_method_16_code
def yX12_isMan : MethodName := ⟨RX12, "isMan", "(I)Z"⟩
abbrev cX12_isVoter : ByteArray := prog_14_method_17_code
def yX12_isVoter : MethodName := ⟨RX12, "isVoter", "(I)Z"⟩
abbrev cX12_areFields : ByteArray := prog_14_method_18_code
def yX12_areFields : MethodName := ⟨RX12, "areFields", "(II)Z"⟩
abbrev cX12_hatsOf : ByteArray := prog_14_method_19_code
def yX12_hatsOf : MethodName := ⟨RX12, "hatsOf", "(I)I"⟩
abbrev cX12_feed : ByteArray := prog_14_method_20_code
def yX12_feed : MethodName := ⟨RX12, "feed", "(IIIII)I"⟩
abbrev cX12_end : ByteArray := prog_14_method_21_code
def yX12_end : MethodName := ⟨RX12, "end", "(I)I"⟩
abbrev cX12_see : ByteArray := prog_14_method_22_code
def yX12_see : MethodName := ⟨RX12, "see", "(I)I"⟩
abbrev cX12_advance : ByteArray := prog_14_method_23_code
def yX12_advance : MethodName := ⟨RX12, "advance", "()V"⟩
abbrev cX12_good : ByteArray := prog_14_method_24_code
def yX12_good : MethodName := ⟨RX12, "good", "()Z"⟩
abbrev cX12_errs : ByteArray := prog_14_method_25_code
def yX12_errs : MethodName := ⟨RX12, "errs", "(I)V"⟩
abbrev cX12_is : ByteArray := prog_14_method_26_code
def yX12_is : MethodName := ⟨RX12, "is", "(Ljava/lang/String;)Z"⟩
abbrev cX12_takes : ByteArray := prog_14_method_27_code
def yX12_takes : MethodName := ⟨RX12, "takes", "(Ljava/lang/String;)Z"⟩
abbrev cX12_expects : ByteArray := prog_14_method_28_code
def yX12_expects : MethodName := ⟨RX12, "expects", "(Ljava/lang/String;)V"⟩
abbrev cX12_number : ByteArray := prog_14_method_29_code
def yX12_number : MethodName := ⟨RX12, "number", "(II)I"⟩
abbrev cX12_told : ByteArray := prog_14_method_30_code
def yX12_told : MethodName := ⟨RX12, "told", "(Ljava/lang/String;II)I"⟩
abbrev cX12_fault : ByteArray := prog_14_method_31_code
def yX12_fault : MethodName := ⟨RX12, "fault", "(I)I"⟩
abbrev cX12_readFirst : ByteArray := prog_14_method_32_code
def yX12_readFirst : MethodName := ⟨RX12, "readFirst", "()V"⟩
abbrev cX12_readHedge : ByteArray := prog_14_method_33_code
def yX12_readHedge : MethodName := ⟨RX12, "readHedge", "()V"⟩
abbrev cX12_readVoter : ByteArray := prog_14_method_34_code
def yX12_readVoter : MethodName := ⟨RX12, "readVoter", "()V"⟩
abbrev cX12_isFull : ByteArray := prog_14_method_35_code
def yX12_isFull : MethodName := ⟨RX12, "isFull", "()Z"⟩
abbrev cX12_readNext : ByteArray := prog_14_method_36_code
def yX12_readNext : MethodName := ⟨RX12, "readNext", "()V"⟩
abbrev cX12_readLine : ByteArray := prog_14_method_37_code
def yX12_readLine : MethodName := ⟨RX12, "readLine", "()V"⟩
abbrev cX12_hundred : ByteArray := prog_14_method_38_code
def yX12_hundred : MethodName := ⟨RX12, "hundred", "()I"⟩
abbrev cX12_field : ByteArray := prog_14_method_39_code
def yX12_field : MethodName := ⟨RX12, "field", "(II)I"⟩
abbrev cX12_man : ByteArray := prog_14_method_40_code
def yX12_man : MethodName := ⟨RX12, "man", "(II)I"⟩
abbrev cX12_hats : ByteArray := prog_14_method_41_code
def yX12_hats : MethodName := ⟨RX12, "hats", "(I)I"⟩
abbrev cX12_rowsAsTold : ByteArray := prog_14_method_42_code
def yX12_rowsAsTold : MethodName := ⟨RX12, "rowsAsTold", "()V"⟩
abbrev cX12_wants : ByteArray := prog_14_method_43_code
def yX12_wants : MethodName := ⟨RX12, "wants", "(II)I"⟩
abbrev cX12_timesOf : ByteArray := prog_14_method_44_code
def yX12_timesOf : MethodName := ⟨RX12, "timesOf", "(IIII)I"⟩
abbrev cX12_votesOf : ByteArray := prog_14_method_45_code
def yX12_votesOf : MethodName := ⟨RX12, "votesOf", "(III)I"⟩
abbrev cX12_mostOf : ByteArray := prog_14_method_46_code
def yX12_mostOf : MethodName := ⟨RX12, "mostOf", "(II)I"⟩
abbrev cX12_fewestOf : ByteArray := prog_14_method_47_code
def yX12_fewestOf : MethodName := ⟨RX12, "fewestOf", "(I)I"⟩
abbrev cX12_electsOf : ByteArray := prog_14_method_48_code
def yX12_electsOf : MethodName := ⟨RX12, "electsOf", "(II)I"⟩
abbrev cX12_isSet : ByteArray := prog_14_method_49_code
def yX12_isSet : MethodName := ⟨RX12, "isSet", "(I)Z"⟩
abbrev cX12_votes : ByteArray := prog_14_method_50_code
def yX12_votes : MethodName := ⟨RX12, "votes", "(III)I"⟩
abbrev cX12_elects : ByteArray := prog_14_method_51_code
def yX12_elects : MethodName := ⟨RX12, "elects", "(II)I"⟩
abbrev cX12_electAll : ByteArray := prog_14_method_52_code
def yX12_electAll : MethodName := ⟨RX12, "electAll", "(I)V"⟩
abbrev cX12_elected : ByteArray := prog_14_method_53_code
def yX12_elected : MethodName := ⟨RX12, "elected", "(I)I"⟩
abbrev cX12_wantsMore : ByteArray := prog_14_method_54_code
def yX12_wantsMore : MethodName := ⟨RX12, "wantsMore", "(III)Z"⟩
abbrev cX12_overOf : ByteArray := prog_14_method_55_code
def yX12_overOf : MethodName := ⟨RX12, "overOf", "(II)I"⟩
abbrev cX12_isOver : ByteArray := prog_14_method_56_code
def yX12_isOver : MethodName := ⟨RX12, "isOver", "(II)Z"⟩
abbrev cX12_over : ByteArray := prog_14_method_57_code
def yX12_over : MethodName := ⟨RX12, "over", "(II)I"⟩
abbrev cX12_beats : ByteArray := prog_14_method_58_code
def yX12_beats : MethodName := ⟨RX12, "beats", "()I"⟩
abbrev cX12_isRing : ByteArray := prog_14_method_59_code
def yX12_isRing : MethodName := ⟨RX12, "isRing", "(III)Z"⟩
abbrev cX12_rings : ByteArray := prog_14_method_60_code
def yX12_rings : MethodName := ⟨RX12, "rings", "()I"⟩
abbrev cX12_hatsIn : ByteArray := prog_14_method_61_code
def yX12_hatsIn : MethodName := ⟨RX12, "hatsIn", "(I)I"⟩
abbrev cX12_least : ByteArray := prog_14_method_62_code
def yX12_least : MethodName := ⟨RX12, "least", "(I)I"⟩
abbrev cX12_doesGain : ByteArray := prog_14_method_63_code
def yX12_doesGain : MethodName := ⟨RX12, "doesGain", "(IIII)Z"⟩
abbrev cX12_gainsOf : ByteArray := prog_14_method_64_code
def yX12_gainsOf : MethodName := ⟨RX12, "gainsOf", "(I)Z"⟩
abbrev cX12_gains : ByteArray := prog_14_method_65_code
def yX12_gains : MethodName := ⟨RX12, "gains", "(I)I"⟩
abbrev cX12_plain : ByteArray := prog_14_method_66_code
def yX12_plain : MethodName := ⟨RX12, "plain", "()I"⟩
abbrev cX12_factorial : ByteArray := prog_14_method_67_code
def yX12_factorial : MethodName := ⟨RX12, "factorial", "(I)I"⟩
abbrev cX12_divisor : ByteArray := prog_14_method_68_code
def yX12_divisor : MethodName := ⟨RX12, "divisor", "(JJ)J"⟩
abbrev cX12_part : ByteArray := prog_14_method_69_code
def yX12_part : MethodName := ⟨RX12, "part", "(JJI)J"⟩
abbrev cX12_power : ByteArray := prog_14_method_70_code
def yX12_power : MethodName := ⟨RX12, "power", "(II)I"⟩
abbrev cX12_loved : ByteArray := prog_14_method_71_code
def yX12_loved : MethodName := ⟨RX12, "loved", "(I)I"⟩
abbrev cX12_shunned : ByteArray := prog_14_method_72_code
def yX12_shunned : MethodName := ⟨RX12, "shunned", "(I)I"⟩
abbrev cX12_swings : ByteArray := prog_14_method_73_code
def yX12_swings : MethodName := ⟨RX12, "swings", "()I"⟩
abbrev cX12_tired : ByteArray := prog_14_method_74_code
def yX12_tired : MethodName := ⟨RX12, "tired", "(I)I"⟩
abbrev cX12_speeches : ByteArray := prog_14_method_75_code
def yX12_speeches : MethodName := ⟨RX12, "speeches", "()V"⟩
abbrev cX12_putMan : ByteArray := prog_14_method_76_code
def yX12_putMan : MethodName := ⟨RX12, "putMan", "(II)V"⟩
abbrev cX12_asElected : ByteArray := prog_14_method_77_code
def yX12_asElected : MethodName := ⟨RX12, "asElected", "(I)V"⟩
abbrev cX12_asItIs : ByteArray := prog_14_method_78_code
def yX12_asItIs : MethodName := ⟨RX12, "asItIs", "()V"⟩
abbrev cX12_stands : ByteArray := prog_14_method_79_code
def yX12_stands : MethodName := ⟨RX12, "stands", "(I)I"⟩
abbrev cX12_where : ByteArray := prog_14_method_80_code
def yX12_where : MethodName := ⟨RX12, "where", "(I)I"⟩
abbrev cX12_guards : ByteArray := prog_14_method_81_code
def yX12_guards : MethodName := ⟨RX12, "guards", "()I"⟩
abbrev cX12_hedgesOf : ByteArray := prog_14_method_82_code
def yX12_hedgesOf : MethodName := ⟨RX12, "hedgesOf", "(I)I"⟩
abbrev cX12_hedges : ByteArray := prog_14_method_83_code
def yX12_hedges : MethodName := ⟨RX12, "hedges", "(I)I"⟩
abbrev cX12_fearOf : ByteArray := prog_14_method_84_code
def yX12_fearOf : MethodName := ⟨RX12, "fearOf", "(II)I"⟩
abbrev cX12_flyTo : ByteArray := prog_14_method_85_code
def yX12_flyTo : MethodName := ⟨RX12, "flyTo", "(II)I"⟩
abbrev cX12_goDay : ByteArray := prog_14_method_86_code
def yX12_goDay : MethodName := ⟨RX12, "goDay", "(I)V"⟩
abbrev cX12_goAll : ByteArray := prog_14_method_87_code
def yX12_goAll : MethodName := ⟨RX12, "goAll", "()V"⟩
abbrev cX12_asksHundred : ByteArray := prog_14_method_88_code
def yX12_asksHundred : MethodName := ⟨RX12, "asksHundred", "()Z"⟩
abbrev cX12_asksDay : ByteArray := prog_14_method_89_code
def yX12_asksDay : MethodName := ⟨RX12, "asksDay", "(I)Z"⟩
abbrev cX12_asksAhead : ByteArray := prog_14_method_90_code
def yX12_asksAhead : MethodName := ⟨RX12, "asksAhead", "(I)Z"⟩
abbrev cX12_asksField : ByteArray := prog_14_method_91_code
def yX12_asksField : MethodName := ⟨RX12, "asksField", "(I)Z"⟩
abbrev cX12_allCorn : ByteArray := prog_14_method_92_code
def yX12_allCorn : MethodName := ⟨RX12, "allCorn", "(I)I"⟩
abbrev cX12_allLast : ByteArray := prog_14_method_93_code
def yX12_allLast : MethodName := ⟨RX12, "allLast", "()I"⟩
abbrev cX12_fear : ByteArray := prog_14_method_94_code
def yX12_fear : MethodName := ⟨RX12, "fear", "(II)I"⟩
abbrev cX12_rooks : ByteArray := prog_14_method_95_code
def yX12_rooks : MethodName := ⟨RX12, "rooks", "(II)I"⟩
abbrev cX12_corn : ByteArray := prog_14_method_96_code
def yX12_corn : MethodName := ⟨RX12, "corn", "(II)I"⟩
abbrev cX12_eaten : ByteArray := prog_14_method_97_code
def yX12_eaten : MethodName := ⟨RX12, "eaten", "(II)I"⟩
abbrev cX12_flies : ByteArray := prog_14_method_98_code
def yX12_flies : MethodName := ⟨RX12, "flies", "(II)I"⟩
abbrev cX12_all : ByteArray := prog_14_method_99_code
def yX12_all : MethodName := ⟨RX12, "all", "(I)I"⟩
abbrev cX12_black : ByteArray := prog_14_method_100_code
def yX12_black : MethodName := ⟨RX12, "black", "(I)I"⟩
abbrev cX12_shoulder : ByteArray := prog_14_method_101_code
def yX12_shoulder : MethodName := ⟨RX12, "shoulder", "(I)I"⟩
abbrev cX12_bare : ByteArray := prog_14_method_102_code
def yX12_bare : MethodName := ⟨RX12, "bare", "(I)I"⟩
abbrev cX12_kept : ByteArray := prog_14_method_103_code
def yX12_kept : MethodName := ⟨RX12, "kept", "()I"⟩
abbrev cX12_worst : ByteArray := prog_14_method_104_code
def yX12_worst : MethodName := ⟨RX12, "worst", "()I"⟩
abbrev cX12_eats : ByteArray := prog_14_method_105_code
def yX12_eats : MethodName := ⟨RX12, "eats", "(I)I"⟩
abbrev cX12_quiet : ByteArray := prog_14_method_106_code
def yX12_quiet : MethodName := ⟨RX12, "quiet", "(I)I"⟩
abbrev cX12_peace : ByteArray := prog_14_method_107_code
def yX12_peace : MethodName := ⟨RX12, "peace", "()I"⟩
abbrev cX12_bold : ByteArray := prog_14_method_108_code
def yX12_bold : MethodName := ⟨RX12, "bold", "(I)I"⟩
abbrev cX12_most : ByteArray := prog_14_method_109_code
def yX12_most : MethodName := ⟨RX12, "most", "(I)I"⟩
abbrev cX12_flown : ByteArray := prog_14_method_110_code
def yX12_flown : MethodName := ⟨RX12, "flown", "(I)I"⟩
abbrev cX12_richest : ByteArray := prog_14_method_111_code
def yX12_richest : MethodName := ⟨RX12, "richest", "(I)I"⟩
abbrev cX12_nextRow : ByteArray := prog_14_method_112_code
def yX12_nextRow : MethodName := ⟨RX12, "nextRow", "()Z"⟩
abbrev cX12_menIn : ByteArray := prog_14_method_113_code
def yX12_menIn : MethodName := ⟨RX12, "menIn", "()I"⟩
abbrev cX12_tryRow : ByteArray := prog_14_method_114_code
def yX12_tryRow : MethodName := ⟨RX12, "tryRow", "()V"⟩
abbrev cX12_asksRows : ByteArray := prog_14_method_115_code
def yX12_asksRows : MethodName := ⟨RX12, "asksRows", "()Z"⟩
abbrev cX12_best : ByteArray := prog_14_method_116_code
def yX12_best : MethodName := ⟨RX12, "best", "()I"⟩
abbrev cX12_ways : ByteArray := prog_14_method_117_code
def yX12_ways : MethodName := ⟨RX12, "ways", "()I"⟩
abbrev cX12_fewest : ByteArray := prog_14_method_118_code
def yX12_fewest : MethodName := ⟨RX12, "fewest", "()I"⟩
abbrev cX12_put : ByteArray := prog_14_method_119_code
def yX12_put : MethodName := ⟨RX12, "put", "(I)I"⟩
abbrev cX12_leftBy : ByteArray := prog_14_method_120_code
def yX12_leftBy : MethodName := ⟨RX12, "leftBy", "(I)I"⟩
abbrev cX12_by : ByteArray := prog_14_method_121_code
def yX12_by : MethodName := ⟨RX12, "by", "(I)I"⟩
abbrev cX12_law : ByteArray := prog_14_method_122_code
def yX12_law : MethodName := ⟨RX12, "law", "()I"⟩
abbrev cX12_speech : ByteArray := prog_14_method_123_code
def yX12_speech : MethodName := ⟨RX12, "speech", "()I"⟩
abbrev cX12_gap : ByteArray := prog_14_method_124_code
def yX12_gap : MethodName := ⟨RX12, "gap", "()I"⟩
abbrev cX12_numberAt : ByteArray := prog_14_method_125_code
def yX12_numberAt : MethodName := ⟨RX12, "numberAt", "(II)J"⟩
abbrev cX12_askSeen : ByteArray := prog_14_method_126_code
def yX12_askSeen : MethodName := ⟨RX12, "askSeen", "(II)I"⟩
abbrev cX12_isSeen : ByteArray := prog_14_method_127_code
def yX12_isSeen : MethodName := ⟨RX12, "isSeen", "(I)Z"⟩
abbrev cX12_layMay : ByteArray := prog_14_method_128_code
def yX12_layMay : MethodName := ⟨RX12, "layMay", "(II)I"⟩
abbrev cX12_may : ByteArray := prog_14_method_129_code
def yX12_may : MethodName := ⟨RX12, "may", "(II)I"⟩
abbrev cX12_sameBy : ByteArray := prog_14_method_130_code
def yX12_sameBy : MethodName := ⟨RX12, "sameBy", "(II)I"⟩
abbrev cX12_askOf : ByteArray := prog_14_method_131_code
def yX12_askOf : MethodName := ⟨RX12, "askOf", "()I"⟩
abbrev cX12_ask : ByteArray := prog_14_method_132_code
def yX12_ask : MethodName := ⟨RX12, "ask", "(II)I"⟩
abbrev cX12_leaves : ByteArray := prog_14_method_133_code
def yX12_leaves : MethodName := ⟨RX12, "leaves", "(II)I"⟩
abbrev cX12_getsBy : ByteArray := prog_14_method_134_code
def yX12_getsBy : MethodName := ⟨RX12, "getsBy", "(IIIII)I"⟩
abbrev cX12_rests : ByteArray := prog_14_method_135_code
def yX12_rests : MethodName := ⟨RX12, "rests", "(II)I"⟩
abbrev cX12_gets : ByteArray := prog_14_method_136_code
def yX12_gets : MethodName := ⟨RX12, "gets", "(IIII)I"⟩
abbrev cX12_layWinds : ByteArray := prog_14_method_137_code
def yX12_layWinds : MethodName := ⟨RX12, "layWinds", "(III)V"⟩
abbrev cX12_isWinds : ByteArray := prog_14_method_138_code
def yX12_isWinds : MethodName := ⟨RX12, "isWinds", "(II)Z"⟩
abbrev cX12_chance : ByteArray := prog_14_method_139_code
def yX12_chance : MethodName := ⟨RX12, "chance", "(IIII)J"⟩
abbrev cX12_mean : ByteArray := prog_14_method_140_code
def yX12_mean : MethodName := ⟨RX12, "mean", "(II)J"⟩
abbrev cX12_keepAct : ByteArray := prog_14_method_141_code
def yX12_keepAct : MethodName := ⟨RX12, "keepAct", "(I)Z"⟩
abbrev cX12_puts : ByteArray := prog_14_method_142_code
def yX12_puts : MethodName := ⟨RX12, "puts", "(II)I"⟩
abbrev cX12_speaks : ByteArray := prog_14_method_143_code
def yX12_speaks : MethodName := ⟨RX12, "speaks", "(II)I"⟩
abbrev cX12_undo : ByteArray := prog_14_method_144_code
def yX12_undo : MethodName := ⟨RX12, "undo", "()I"⟩
abbrev cX12_anew : ByteArray := prog_14_method_145_code
def yX12_anew : MethodName := ⟨RX12, "anew", "()I"⟩
abbrev cX12_goDrawn : ByteArray := prog_14_method_146_code
def yX12_goDrawn : MethodName := ⟨RX12, "goDrawn", "(J)V"⟩
abbrev cX12_isSeed : ByteArray := prog_14_method_147_code
def yX12_isSeed : MethodName := ⟨RX12, "isSeed", "(I)Z"⟩
abbrev cX12_drawn : ByteArray := prog_14_method_148_code
def yX12_drawn : MethodName := ⟨RX12, "drawn", "(II)I"⟩
abbrev cX12_luck : ByteArray := prog_14_method_149_code
def yX12_luck : MethodName := ⟨RX12, "luck", "(III)I"⟩
abbrev cX12_rate : ByteArray := prog_14_method_150_code
def yX12_rate : MethodName := ⟨RX12, "rate", "(II)I"⟩
abbrev cX12_count : ByteArray := prog_14_method_151_code
def yX12_count : MethodName := ⟨RX12, "count", "(I)I"⟩
abbrev cX12_isSlot : ByteArray := prog_14_method_152_code
def yX12_isSlot : MethodName := ⟨RX12, "isSlot", "(I)Z"⟩
abbrev cX12_clipped : ByteArray := prog_14_method_153_code
def yX12_clipped : MethodName := ⟨RX12, "clipped", "(JI)J"⟩
abbrev cX12_row : ByteArray := prog_14_method_154_code
def yX12_row : MethodName := ⟨RX12, "row", "(III)I"⟩
abbrev cX12_write : ByteArray := prog_14_method_155_code
def yX12_write : MethodName := ⟨RX12, "write", "(IIJ)I"⟩
abbrev cX12_paste : ByteArray := prog_14_method_156_code
def yX12_paste : MethodName := ⟨RX12, "paste", "(IIIII)I"⟩
abbrev vwCl : List vw_C := [(RX0, TX0, 4), (RX1, TX1, 2), (RX2, TX2, 4), (RX3, TX3, 9), (RX4, TX4, 17), (RX5, TX5, 8), (RX6, TX6, 4), (RX7, TX7, 4), (RX8, TX8, 3), (RX9, TX9, 2), (RX10, TX10, 6), (RX11, TX11, 16), (RX12, TX12, 45)]
end
section
/-! ===== rows of numbers by runs ===== -/
def lk : List (Nat × AV) → Nat → Option AV
  | [], _ => none
  | (n, a) :: r, i => if i < n then some a else lk r (i - n)
def tot : List (Nat × AV) → Nat
  | [] => 0
  | (n, _) :: r => n + tot r
theorem lk_some : ∀ {sg : List (Nat × AV)} {i : Nat}, i < tot sg → ∃ a, lk sg i = some a
  | [], i, h => by simp [tot] at h
  | (n, a) :: r, i, h => by
    unfold lk
    split
    · exact ⟨a, rfl⟩
    · exact lk_some (sg := r) (by simp [tot] at h; omega)
theorem lk_lt : ∀ {sg : List (Nat × AV)} {i : Nat} {a : AV}, lk sg i = some a → i < tot sg
  | [], i, a, h => by cases h
  | (n, b) :: r, i, a, h => by
    unfold lk at h
    simp only [tot]
    split at h
    · omega
    · have := lk_lt (sg := r) h; omega
/-- the runs that reach into lo .. hi -/
def ovl (lo hi : Nat) : List (Nat × AV) → Nat → List AV
  | [], _ => []
  | (n, a) :: r, s => if s ≤ hi ∧ lo < s + n then a :: ovl lo hi r (s + n) else ovl lo hi r (s + n)
theorem ovl_mem {lo hi : Nat} : ∀ {sg : List (Nat × AV)} {s i : Nat} {a : AV}, s ≤ i → lo ≤ i → i ≤ hi → lk sg (i - s) = some a → a ∈ ovl lo hi sg s
  | [], s, i, a, _, _, _, h => by cases h
  | (n, b) :: r, s, i, a, h1, h2, h3, h => by
    unfold lk at h
    unfold ovl
    split at h
    · cases h
      rw [if_pos ⟨by omega, by omega⟩]
      exact List.mem_cons_self
    · have hm := ovl_mem (sg := r) (s := s + n) (i := i) (a := a) (by omega) h2 h3 (by rw [show i - (s + n) = i - s - n by omega]; exact h)
      split
      · exact List.mem_cons_of_mem _ hm
      · exact hm
def hulI (G : GI) : List AV → Option (Int × Int)
  | [] => none
  | [a] => ivI G a
  | a :: r => match ivI G a, hulI G r with
    | some p, some q => some (min p.1 q.1, max p.2 q.2)
    | _, _ => none
def hulL (G : GI) : List AV → Option (Int × Int)
  | [] => none
  | [a] => ivL G a
  | a :: r => match ivL G a, hulL G r with
    | some p, some q => some (min p.1 q.1, max p.2 q.2)
    | _, _ => none
theorem hulI_ok {G : GI} {g : List Int} {V : EV} {v : Value} {x : AV} (hG : GS G g) (hx : gam g V x v) : ∀ {xs : List AV} {q : Int × Int}, x ∈ xs → hulI G xs = some q → ∃ y : Int32, v = .int y ∧ inI q y.toInt
  | [], q, h, _ => by cases h
  | [a], q, h, hq => by
    have : x = a := List.mem_singleton.mp h
    subst this
    exact ivI_ok hG hx hq
  | a :: b :: r, q, h, hq => by
    unfold hulI at hq
    split at hq
    · rename_i p q' hp hq'
      cases hq
      rcases List.mem_cons.mp h with rfl | h
      · obtain ⟨y, h1, h2⟩ := ivI_ok hG hx hp
        unfold inI at h2
        exact ⟨y, h1, by unfold inI; simp only; omega⟩
      · obtain ⟨y, h1, h2⟩ := hulI_ok hG hx (xs := b :: r) h hq'
        unfold inI at h2
        exact ⟨y, h1, by unfold inI; simp only; omega⟩
    · cases hq
theorem hulL_ok {G : GI} {g : List Int} {V : EV} {v : Value} {x : AV} (hG : GS G g) (hx : gam g V x v) : ∀ {xs : List AV} {q : Int × Int}, x ∈ xs → hulL G xs = some q → ∃ y : Int64, v = .long y ∧ inI q y.toInt
  | [], q, h, _ => by cases h
  | [a], q, h, hq => by
    have : x = a := List.mem_singleton.mp h
    subst this
    exact ivL_ok hG hx hq
  | a :: b :: r, q, h, hq => by
    unfold hulL at hq
    split at hq
    · rename_i p q' hp hq'
      cases hq
      rcases List.mem_cons.mp h with rfl | h
      · obtain ⟨y, h1, h2⟩ := ivL_ok hG hx hp
        unfold inI at h2
        exact ⟨y, h1, by unfold inI; simp only; omega⟩
      · obtain ⟨y, h1, h2⟩ := hulL_ok hG hx (xs := b :: r) h hq'
        unfold inI at h2
        exact ⟨y, h1, by unfold inI; simp only; omega⟩
    · cases hq
/-- a value gets a name -/
def nam (G : GI) (a : AV) : Option (GI × AV) := match a.1 with
  | 2 => some (mk2 G (a.2.1, a.2.2))
  | 5 => some (mk5 G (a.2.1, a.2.2))
  | 8 => none
  | _ => some (G, a)
theorem nam_ok {G : GI} {g : List Int} {V : EV} {a : AV} {v : Value} {r : GI × AV} (hG : GS G g) (ha : gam g V a v) (hr : nam G a = some r) : ∃ g', gxt g g' ∧ GS r.1 g' ∧ gam g' V r.2 v := by
  obtain ⟨t, b, c⟩ := a
  unfold nam at hr
  split at hr
  · rename_i ht; simp only at ht; subst ht; cases hr
    obtain ⟨x, rfl, h2, h3⟩ := ha
    exact mk2_ok hG x ⟨h2, h3⟩
  · rename_i ht; simp only at ht; subst ht; cases hr
    obtain ⟨x, rfl, h2, h3⟩ := ha
    exact mk5_ok hG x ⟨h2, h3⟩
  · cases hr
  · cases hr; exact ⟨g, gxt_rf, hG, ha⟩
def rdA (G : GI) (sg : List (Nat × AV)) (lo hi : Nat) : Option (GI × AV) := match ovl lo hi sg 0 with
  | [x] => nam G x
  | xs => match hulI G xs with
    | some q => some (mk2 G q)
    | none => match hulL G xs with
      | some q => some (mk5 G q)
      | none => none
theorem rdA_ok {G : GI} {g : List Int} {V : EV} {sg : List (Nat × AV)} {lo hi i : Nat} {val : Nat → Value} {r : GI × AV} (hG : GS G g) (hv : ∀ (j : Nat) (a : AV), lk sg j = some a → gam g V a (val j)) (h1 : lo ≤ i) (h2 : i ≤ hi) (hi' : i < tot sg) (hr : rdA G sg lo hi = some r) : ∃ g', gxt g g' ∧ GS r.1 g' ∧ gam g' V r.2 (val i) := by
  obtain ⟨a, ha⟩ := lk_some hi'
  have hm : a ∈ ovl lo hi sg 0 := ovl_mem (Nat.zero_le i) h1 h2 ha
  have hg := hv i a ha
  unfold rdA at hr
  split at hr
  · rename_i x hx
    rw [hx] at hm
    have : a = x := List.mem_singleton.mp hm
    subst this
    exact nam_ok hG hg hr
  · split at hr
    · rename_i q hq
      cases hr
      obtain ⟨y, h3, h4⟩ := hulI_ok hG hg hm hq
      rw [h3]
      exact mk2_ok hG y h4
    · split at hr
      · rename_i q hq
        cases hr
        obtain ⟨y, h3, h4⟩ := hulL_ok hG hg hm hq
        rw [h3]
        exact mk5_ok hG y h4
      · cases hr
/-- one place is written -/
def stA : List (Nat × AV) → Nat → AV → List (Nat × AV)
  | [], _, _ => []
  | (n, a) :: r, i, x => if i < n then (if a = x then (n, a) :: r else (i, a) :: (1, x) :: (n - i - 1, a) :: r) else (n, a) :: stA r (i - n) x
theorem stA_tot : ∀ {sg : List (Nat × AV)} {i : Nat} {x : AV}, tot (stA sg i x) = tot sg
  | [], _, _ => rfl
  | (n, a) :: r, i, x => by
    unfold stA
    split
    · split
      · rfl
      · simp only [tot]; omega
    · simp only [tot]; rw [stA_tot (sg := r)]
theorem stA_lk : ∀ {sg : List (Nat × AV)} {i j : Nat} {x b : AV}, lk (stA sg i x) j = some b → (j = i ∧ b = x) ∨ (j ≠ i ∧ lk sg j = some b)
  | [], _, _, _, _, h => by cases h
  | (n, a) :: r, i, j, x, b, h => by
    unfold stA at h
    split at h
    · rename_i hin
      split at h
      · rename_i hax
        by_cases hji : j = i
        · subst hji
          unfold lk at h
          rw [if_pos hin] at h
          cases h
          exact Or.inl ⟨rfl, hax⟩
        · exact Or.inr ⟨hji, h⟩
      · unfold lk at h
        split at h
        · rename_i h1
          cases h
          exact Or.inr ⟨by omega, by unfold lk; rw [if_pos (by omega)]⟩
        · unfold lk at h
          split at h
          · cases h
            exact Or.inl ⟨by omega, rfl⟩
          · unfold lk at h
            refine Or.inr ⟨by omega, ?_⟩
            unfold lk
            split at h
            · rw [if_pos (by omega)]; exact h
            · rw [if_neg (by omega)]
              rw [show j - n = j - i - 1 - (n - i - 1) by omega]; exact h
    · rename_i hin
      unfold lk at h
      split at h
      · exact Or.inr ⟨by omega, by unfold lk; rw [if_pos (by omega)]; exact h⟩
      · rcases stA_lk (sg := r) h with ⟨h1, h2⟩ | ⟨h1, h2⟩
        · exact Or.inl ⟨by omega, h2⟩
        · exact Or.inr ⟨by omega, by unfold lk; rw [if_neg (by omega)]; exact h2⟩
/-- two values, or one: what holds of both -/
def joi (G : GI) (a x : AV) : Option AV := if a = x then some a else match ivI G a, ivI G x with
  | some p, some q => some (2, min p.1 q.1, max p.2 q.2)
  | _, _ => match ivL G a, ivL G x with
    | some p, some q => some (5, min p.1 q.1, max p.2 q.2)
    | _, _ => none
theorem joi_l {G : GI} {g : List Int} {V : EV} {a x b : AV} {v : Value} (hG : GS G g) (h : joi G a x = some b) (hv : gam g V a v) : gam g V b v := by
  unfold joi at h
  split at h
  · cases h; exact hv
  · split at h
    · rename_i p q hp hq
      cases h
      obtain ⟨y, h1, h2⟩ := ivI_ok hG hv hp
      unfold inI at h2
      exact ⟨y, h1, by simp only; omega, by simp only; omega⟩
    · split at h
      · rename_i p q hp hq
        cases h
        obtain ⟨y, h1, h2⟩ := ivL_ok hG hv hp
        unfold inI at h2
        exact ⟨y, h1, by simp only; omega, by simp only; omega⟩
      · cases h
theorem joi_r {G : GI} {g : List Int} {V : EV} {a x b : AV} {v : Value} (hG : GS G g) (h : joi G a x = some b) (hv : gam g V x v) : gam g V b v := by
  unfold joi at h
  split at h
  · rename_i hx; subst hx; cases h; exact hv
  · split at h
    · rename_i p q hp hq
      cases h
      obtain ⟨y, h1, h2⟩ := ivI_ok hG hv hq
      unfold inI at h2
      exact ⟨y, h1, by simp only; omega, by simp only; omega⟩
    · split at h
      · rename_i p q hp hq
        cases h
        obtain ⟨y, h1, h2⟩ := ivL_ok hG hv hq
        unfold inI at h2
        exact ⟨y, h1, by simp only; omega, by simp only; omega⟩
      · cases h
def wkA (G : GI) (x : AV) (lo hi : Nat) : List (Nat × AV) → Nat → Option (List (Nat × AV))
  | [], _ => some []
  | (n, a) :: r, s => match wkA G x lo hi r (s + n) with
    | none => none
    | some r' => if s ≤ hi ∧ lo < s + n then (match joi G a x with
      | some b => some ((n, b) :: r')
      | none => none) else some ((n, a) :: r')
theorem wkA_tot {G : GI} {x : AV} {lo hi : Nat} : ∀ {sg sg' : List (Nat × AV)} {s : Nat}, wkA G x lo hi sg s = some sg' → tot sg' = tot sg
  | [], _, _, h => by cases h; rfl
  | (n, a) :: r, sg', s, h => by
    unfold wkA at h
    split at h
    · cases h
    · rename_i r' hr'
      have := wkA_tot hr'
      split at h
      · split at h
        · cases h; simp only [tot]; omega
        · cases h
      · cases h; simp only [tot]; omega
theorem wkA_lk {G : GI} {g : List Int} {V : EV} {x : AV} {lo hi : Nat} {v : Value} (hG : GS G g) (hx : gam g V x v) : ∀ {sg sg' : List (Nat × AV)} {s : Nat} {val : Nat → Value}, (∀ (j : Nat) (a : AV), lk sg j = some a → gam g V a (val j)) → wkA G x lo hi sg s = some sg' → ∀ (j : Nat) (b : AV), lk sg' j = some b → gam g V b (val j) ∧ (lo ≤ s + j → s + j ≤ hi → gam g V b v)
  | [], _, _, _, _, h, j, b, hb => by cases h; cases hb
  | (n, a) :: r, sg', s, val, hv, h, j, b, hb => by
    unfold wkA at h
    split at h
    · cases h
    · rename_i r' hr'
      have ih := wkA_lk hG hx (sg := r) (sg' := r') (s := s + n) (val := fun j => val (j + n)) (fun j a ha => hv (j + n) a (by unfold lk; rw [if_neg (by omega), show j + n - n = j by omega]; exact ha)) hr'
      split at h
      · split at h
        · rename_i c hc
          cases h
          unfold lk at hb
          split at hb
          · cases hb
            rename_i hjn
            exact ⟨joi_l hG hc (hv j a (by unfold lk; rw [if_pos hjn])), fun _ _ => joi_r hG hc hx⟩
          · have := ih (j - n) b hb
            rw [show j - n + n = j by omega, show s + n + (j - n) = s + j by omega] at this
            exact this
        · cases h
      · rename_i hno
        cases h
        unfold lk at hb
        split at hb
        · cases hb
          rename_i hjn
          exact ⟨hv j a (by unfold lk; rw [if_pos hjn]), fun h1 h2 => absurd ⟨by omega, by omega⟩ hno⟩
        · have := ih (j - n) b hb
          rw [show j - n + n = j by omega, show s + n + (j - n) = s + j by omega] at this
          exact this
def wrA (G : GI) (sg : List (Nat × AV)) (lo hi : Nat) (x : AV) : Option (List (Nat × AV)) := if lo = hi then some (stA sg lo x) else wkA G x lo hi sg 0
theorem wrA_tot {G : GI} {sg sg' : List (Nat × AV)} {lo hi : Nat} {x : AV} (h : wrA G sg lo hi x = some sg') : tot sg' = tot sg := by
  unfold wrA at h
  split at h
  · cases h; exact stA_tot
  · exact wkA_tot h
theorem wrA_ok {G : GI} {g : List Int} {V : EV} {sg sg' : List (Nat × AV)} {lo hi i : Nat} {x : AV} {v : Value} {val val' : Nat → Value} (hG : GS G g) (hx : gam g V x v) (hv : ∀ (j : Nat) (a : AV), lk sg j = some a → gam g V a (val j)) (h1 : lo ≤ i) (h2 : i ≤ hi) (he : val' i = v) (ho : ∀ j, j ≠ i → val' j = val j) (h : wrA G sg lo hi x = some sg') : ∀ (j : Nat) (a : AV), lk sg' j = some a → gam g V a (val' j) := by
  intro j a ha
  unfold wrA at h
  split at h
  · cases h
    have hil : i = lo := by omega
    subst hil
    rcases stA_lk ha with ⟨rfl, rfl⟩ | ⟨h3, h4⟩
    · rw [he]; exact hx
    · rw [ho j h3]; exact hv j a h4
  · have := wkA_lk hG hx hv h j a ha
    by_cases hji : j = i
    · subst hji
      rw [he]; exact this.2 (by omega) (by omega)
    · rw [ho j hji]; exact this.1
end
section
/-! ===== cells, worlds, and what is less than what ===== -/
/-- a value now, as one of the start's (n names there) -/
def subV (n : Nat) (G : GI) (a b : AV) : Bool := match b.1 with
  | 0 => match ivI G a with
    | some p => decide (p.1 = b.2.1 ∧ p.2 = b.2.1)
    | none => false
  | 1 => decide (a = b ∧ b.2.1.toNat < n)
  | 2 => match ivI G a with
    | some p => decide (b.2.1 ≤ p.1 ∧ p.2 ≤ b.2.2)
    | none => false
  | 3 => match ivL G a with
    | some p => decide (p.1 = b.2.1 ∧ p.2 = b.2.1)
    | none => false
  | 4 => decide (a = b ∧ b.2.1.toNat < n)
  | 5 => match ivL G a with
    | some p => decide (b.2.1 ≤ p.1 ∧ p.2 ≤ b.2.2)
    | none => false
  | 6 => decide (a = b)
  | 7 => decide (a = b)
  | 8 => decide (a = b)
  | _ => false
theorem gam_cut {g g0 : List Int} {V : EV} {b : AV} {v : Value} (hx : gxt g0 g) (hn : b.1 = 1 ∨ b.1 = 4 → b.2.1.toNat < g0.length) (h : gam g V b v) : gam g0 V b v := by
  obtain ⟨t, x, y⟩ := b
  obtain ⟨e, rfl⟩ := hx
  unfold gam at h ⊢
  split at h
  · exact h
  · rename_i ht; simp only at ht
    obtain ⟨u, h1, z, h2, h3⟩ := h
    refine ⟨u, h1, z, ?_, h3⟩
    rw [List.getElem?_append_left (hn (Or.inl ht))] at h2
    exact h2
  · exact h
  · exact h
  · rename_i ht; simp only at ht
    obtain ⟨u, h1, z, h2, h3⟩ := h
    refine ⟨u, h1, z, ?_, h3⟩
    rw [List.getElem?_append_left (hn (Or.inr ht))] at h2
    exact h2
  · exact h
  · exact h
  · exact h
  · exact h
  · exact h
  · exact h.elim
theorem subV_ok {G : GI} {g g0 : List Int} {V : EV} {a b : AV} {v : Value} (hG : GS G g) (hx : gxt g0 g) (ha : gam g V a v) (h : subV g0.length G a b = true) : gam g0 V b v := by
  obtain ⟨t, b1, b2⟩ := b
  unfold subV at h
  split at h
  · rename_i ht; simp only at ht; subst ht
    split at h
    · rename_i p hp
      obtain ⟨x, h1, h2⟩ := ivI_ok hG ha hp
      have h := of_decide_eq_true h
      unfold inI at h2
      simp only at h
      exact ⟨x, h1, by simp only; omega⟩
    · cases h
  · rename_i ht; simp only at ht; subst ht
    have h := of_decide_eq_true h
    obtain ⟨rfl, h2⟩ := h
    exact gam_cut hx (fun _ => h2) ha
  · rename_i ht; simp only at ht; subst ht
    split at h
    · rename_i p hp
      obtain ⟨x, h1, h2⟩ := ivI_ok hG ha hp
      have h := of_decide_eq_true h
      unfold inI at h2
      simp only at h
      exact ⟨x, h1, by simp only; omega, by simp only; omega⟩
    · cases h
  · rename_i ht; simp only at ht; subst ht
    split at h
    · rename_i p hp
      obtain ⟨x, h1, h2⟩ := ivL_ok hG ha hp
      have h := of_decide_eq_true h
      unfold inI at h2
      simp only at h
      exact ⟨x, h1, by simp only; omega⟩
    · cases h
  · rename_i ht; simp only at ht; subst ht
    have h := of_decide_eq_true h
    obtain ⟨rfl, h2⟩ := h
    exact gam_cut hx (fun _ => h2) ha
  · rename_i ht; simp only at ht; subst ht
    split at h
    · rename_i p hp
      obtain ⟨x, h1, h2⟩ := ivL_ok hG ha hp
      have h := of_decide_eq_true h
      unfold inI at h2
      simp only at h
      exact ⟨x, h1, by simp only; omega, by simp only; omega⟩
    · cases h
  · rename_i ht; simp only at ht; subst ht
    have h := of_decide_eq_true h
    subst h
    exact gam_cut hx (fun q => by simp at q) ha
  · rename_i ht; simp only at ht; subst ht
    have h := of_decide_eq_true h
    subst h
    exact gam_cut hx (fun q => by simp at q) ha
  · rename_i ht; simp only at ht; subst ht
    have h := of_decide_eq_true h
    subst h
    exact gam_cut hx (fun q => by simp at q) ha
  · cases h
def subF (n : Nat) (G : GI) : List AV → List AV → Bool
  | [], [] => true
  | a :: as, b :: bs => subV n G a b && subF n G as bs
  | _, _ => false
theorem subF_ok {G : GI} {g g0 : List Int} {V : EV} (hG : GS G g) (hx : gxt g0 g) : ∀ {as bs : List AV} {vs : List Value}, zf2 (gam g V) as vs → subF g0.length G as bs = true → zf2 (gam g0 V) bs vs
  | [], [], [], _, _ => trivial
  | [], _ :: _, _, _, h => by simp [subF] at h
  | _ :: _, [], _, _, h => by simp [subF] at h
  | a :: as, b :: bs, [], hz, _ => hz.elim
  | a :: as, b :: bs, v :: vs, hz, h => by
    simp only [subF, Bool.and_eq_true] at h
    exact ⟨subV_ok hG hx hz.1 h.1, subF_ok hG hx hz.2 h.2⟩
def subS (n : Nat) (G : GI) : Nat → List (Nat × AV) → List (Nat × AV) → Bool
  | 0, _, _ => false
  | f + 1, s1, s2 => match s1, s2 with
    | [], [] => true
    | (n1, a) :: r1, (n2, b) :: r2 =>
      if n1 = 0 then subS n G f r1 ((n2, b) :: r2)
      else if n2 = 0 then subS n G f ((n1, a) :: r1) r2
      else subV n G a b && (if n1 = n2 then subS n G f r1 r2 else if n1 < n2 then subS n G f r1 ((n2 - n1, b) :: r2) else subS n G f ((n1 - n2, a) :: r1) r2)
    | (n1, _) :: r1, [] => if n1 = 0 then subS n G f r1 [] else false
    | [], (n2, _) :: r2 => if n2 = 0 then subS n G f [] r2 else false
theorem subS_ok {n : Nat} {G : GI} : ∀ {f : Nat} {s1 s2 : List (Nat × AV)}, subS n G f s1 s2 = true → tot s1 = tot s2 ∧ ∀ (j : Nat) (b : AV), lk s2 j = some b → ∃ a, lk s1 j = some a ∧ subV n G a b = true
  | 0, _, _, h => by simp [subS] at h
  | f + 1, s1, s2, h => by
    unfold subS at h
    split at h
    · exact ⟨rfl, fun j b hb => by cases hb⟩
    · rename_i n1 a r1 n2 b r2
      split at h
      · rename_i h0
        subst h0
        have ih := subS_ok h
        refine ⟨by simp only [tot] at ih ⊢; omega, fun j c hc => ?_⟩
        obtain ⟨d, h1, h2⟩ := ih.2 j c hc
        exact ⟨d, by unfold lk; rw [if_neg (by omega)]; exact h1, h2⟩
      · split at h
        · rename_i h0
          subst h0
          have ih := subS_ok h
          refine ⟨by simp only [tot] at ih ⊢; omega, fun j c hc => ?_⟩
          unfold lk at hc
          rw [if_neg (by omega)] at hc
          exact ih.2 j c hc
        · simp only [Bool.and_eq_true] at h
          obtain ⟨hv, h⟩ := h
          split at h
          · rename_i he
            subst he
            have ih := subS_ok h
            refine ⟨by simp only [tot] at ih ⊢; omega, fun j c hc => ?_⟩
            unfold lk at hc ⊢
            split at hc
            · cases hc
              rename_i hj
              exact ⟨a, by rw [if_pos hj], hv⟩
            · rename_i hj
              obtain ⟨d, h1, h2⟩ := ih.2 _ c hc
              exact ⟨d, by rw [if_neg hj]; exact h1, h2⟩
          · split at h
            · have ih := subS_ok h
              refine ⟨by simp only [tot] at ih ⊢; omega, fun j c hc => ?_⟩
              unfold lk at hc ⊢
              by_cases hj : j < n1
              · rw [if_pos (by omega)] at hc
                cases hc
                exact ⟨a, by rw [if_pos hj], hv⟩
              · rw [if_neg hj]
                refine ih.2 (j - n1) c ?_
                unfold lk
                split at hc
                · rw [if_pos (by omega)]; exact hc
                · rw [if_neg (by omega), show j - n1 - (n2 - n1) = j - n2 by omega]; exact hc
            · have ih := subS_ok h
              refine ⟨by simp only [tot] at ih ⊢; omega, fun j c hc => ?_⟩
              unfold lk at hc ⊢
              split at hc
              · cases hc
                exact ⟨a, by rw [if_pos (by omega)], hv⟩
              · obtain ⟨d, h1, h2⟩ := ih.2 _ c hc
                refine ⟨d, ?_, h2⟩
                unfold lk at h1
                split at h1
                · rw [if_pos (by omega)]; exact h1
                · rw [if_neg (by omega)]
                  rw [show j - n2 - (n1 - n2) = j - n1 by omega] at h1; exact h1
    · split at h
      · rename_i h0
        subst h0
        have ih := subS_ok h
        exact ⟨by simp only [tot] at ih ⊢; omega, fun j c hc => by cases hc⟩
      · cases h
    · split at h
      · rename_i h0
        subst h0
        have ih := subS_ok h
        refine ⟨by simp only [tot] at ih ⊢; omega, fun j c hc => ?_⟩
        unfold lk at hc
        rw [if_neg (by omega)] at hc
        exact ih.2 j c hc
      · cases h
/-- what a cell holds -/
def relC (g : List Int) (V : EV) (cA : Nat → ClassId) (a : AC) (e : va_E) : Prop := match a, e with
  | .inl o, .inr q => o.1 = q.1 ∧ zf2 (gam g V) o.2 q.2
  | .inr t, .inl (k, n, .inl f) => (t.1 = 0 ∨ t.1 = 1 ∨ t.1 = 3) ∧ k = cA t.1 ∧ n = tot t.2 ∧ n < 2 ^ 31 ∧ ∀ (i : Nat) (b : AV), lk t.2 i = some b → gam g V b (.int (f i))
  | .inr t, .inl (k, n, .inr (.inl f)) => t.1 = 2 ∧ k = cA t.1 ∧ n = tot t.2 ∧ n < 2 ^ 31 ∧ ∀ (i : Nat) (b : AV), lk t.2 i = some b → gam g V b (.long (f i))
  | .inr t, .inl (k, n, .inr (.inr (.inr (.inr f)))) => t.1 = 4 ∧ k = cA t.1 ∧ n = tot t.2 ∧ n < 2 ^ 31 ∧ ∀ (i : Nat) (b : AV), lk t.2 i = some b → gam g V b (va_rf (f i))
  | _, _ => False
theorem relC_ext {g g' : List Int} {V : EV} {cA : Nat → ClassId} {a : AC} {e : va_E} (hx : gxt g g') (h : relC g V cA a e) : relC g' V cA a e := by
  unfold relC at h ⊢
  split at h
  · exact ⟨h.1, zf2_mono (fun _ _ => gam_ext hx) h.2⟩
  · exact ⟨h.1, h.2.1, h.2.2.1, h.2.2.2.1, fun i b hb => gam_ext hx (h.2.2.2.2 i b hb)⟩
  · exact ⟨h.1, h.2.1, h.2.2.1, h.2.2.2.1, fun i b hb => gam_ext hx (h.2.2.2.2 i b hb)⟩
  · exact ⟨h.1, h.2.1, h.2.2.1, h.2.2.2.1, fun i b hb => gam_ext hx (h.2.2.2.2 i b hb)⟩
  · exact h.elim
def subC (n : Nat) (G : GI) (a b : AC) : Bool := match a, b with
  | .inl x, .inl y => decide (x.1 = y.1) && subF n G x.2 y.2
  | .inr x, .inr y => decide (x.1 = y.1) && subS n G (x.2.length + y.2.length + 1) x.2 y.2
  | _, _ => false
theorem subC_ok {G : GI} {g g0 : List Int} {V : EV} {cA : Nat → ClassId} {a b : AC} {e : va_E} (hG : GS G g) (hx : gxt g0 g) (ha : relC g V cA a e) (h : subC g0.length G a b = true) : relC g0 V cA b e := by
  unfold subC at h
  split at h
  · rename_i x y
    simp only [Bool.and_eq_true, decide_eq_true_eq] at h
    unfold relC at ha ⊢
    split at ha
    · rename_i o q hq
      cases hq
      exact ⟨h.1 ▸ ha.1, subF_ok hG hx ha.2 h.2⟩
    · rename_i hq; cases hq
    · rename_i hq; cases hq
    · rename_i hq; cases hq
    · exact ha.elim
  · rename_i x y
    simp only [Bool.and_eq_true, decide_eq_true_eq] at h
    have hs := subS_ok h.2
    unfold relC at ha ⊢
    split at ha
    · rename_i hq; cases hq
    · rename_i t k n f hq
      cases hq
      refine ⟨h.1 ▸ ha.1, h.1 ▸ ha.2.1, ha.2.2.1.trans hs.1, ha.2.2.2.1, fun i c hc => ?_⟩
      obtain ⟨d, h1, h2⟩ := hs.2 i c hc
      exact subV_ok hG hx (ha.2.2.2.2 i d h1) h2
    · rename_i t k n f hq
      cases hq
      refine ⟨h.1 ▸ ha.1, h.1 ▸ ha.2.1, ha.2.2.1.trans hs.1, ha.2.2.2.1, fun i c hc => ?_⟩
      obtain ⟨d, h1, h2⟩ := hs.2 i c hc
      exact subV_ok hG hx (ha.2.2.2.2 i d h1) h2
    · rename_i t k n f hq
      cases hq
      refine ⟨h.1 ▸ ha.1, h.1 ▸ ha.2.1, ha.2.2.1.trans hs.1, ha.2.2.2.1, fun i c hc => ?_⟩
      obtain ⟨d, h1, h2⟩ := hs.2 i c hc
      exact subV_ok hG hx (ha.2.2.2.2 i d h1) h2
    · exact ha.elim
  · cases h
/-- the world: addresses beside what they hold -/
def zw : List Nat → List va_E → va_W
  | a :: ad, e :: es => (a, e) :: zw ad es
  | _, _ => []
theorem zw_get : ∀ {ad : List Nat} {es : List va_E} {k a : Nat} {e : va_E}, ad[k]? = some a → es[k]? = some e → (zw ad es)[k]? = some (a, e)
  | [], _, _, _, _, h, _ => by simp at h
  | _ :: _, [], _, _, _, _, h => by simp at h
  | a :: ad, e :: es, 0, _, _, h, h' => by simp at h h'; subst h; subst h'; rfl
  | a :: ad, e :: es, k + 1, b, f, h, h' => by
    have := zw_get (ad := ad) (es := es) (k := k) (a := b) (e := f) (by simpa using h) (by simpa using h')
    simpa [zw] using this
theorem zw_inv : ∀ {ad : List Nat} {es : List va_E} {k : Nat} {q : Nat × va_E}, (zw ad es)[k]? = some q → ad[k]? = some q.1 ∧ es[k]? = some q.2
  | [], _, _, _, h => by simp [zw] at h
  | _ :: _, [], _, _, h => by simp [zw] at h
  | a :: ad, e :: es, 0, q, h => by simp [zw] at h; subst h; exact ⟨rfl, rfl⟩
  | a :: ad, e :: es, k + 1, q, h => by
    have := zw_inv (ad := ad) (es := es) (k := k) (q := q) (by simpa [zw] using h)
    simpa using this
theorem zw_set : ∀ {ad : List Nat} {es : List va_E} {k a : Nat} {e : va_E}, ad[k]? = some a → (zw ad es).set k (a, e) = zw ad (es.set k e)
  | [], _, _, _, _, h => by simp at h
  | _ :: _, [], k, _, _, _ => by cases k <;> simp [zw]
  | a :: ad, e :: es, 0, _, _, h => by simp at h; subst h; rfl
  | a :: ad, e :: es, k + 1, b, f, h => by
    have := zw_set (ad := ad) (es := es) (k := k) (a := b) (e := f) (by simpa using h)
    simp [zw, this]
end
section
/-! ===== the machine beside the interpreter ===== -/
abbrev HP : Type := List (Bool × AC)
abbrev AS : Type := Nat × List (Nat × AV) × List AV × GI × HP
def catA (a : AV) : Nat := if a.1 = 3 ∨ a.1 = 4 ∨ a.1 = 5 then 2 else 1
def locR (g : List Int) (V : EV) (x : Nat × AV) (y : Nat × Value) : Prop := x.1 = y.1 ∧ gam g V x.2 y.2 ∧ x.2.1 ≠ 8
def kep (hp : HP) (es0 es : List va_E) : Prop := ∀ (j : Nat) (q : Bool × AC), hp[j]? = some q → q.1 = false → es[j]? = es0[j]?
def tysA (cA : Nat → ClassId) : List (ClassId × FieldType) := [(cA 0, .byte), (cA 1, .int), (cA 2, .long), (cA 3, .boolean), (cA 4, .object "RookHusting$State")]
def HS (D : va_G) (cl : List vw_C) (A : Nat → Prop) (H0 : Heap) (V : EV) (cA : Nat → ClassId) (es0 : List va_E) (hp : HP) (g : List Int) (es : List va_E) (H : Heap) (locs : List Loc) : Prop :=
  zf2 (fun (x : Bool × AC) (y : va_E) => relC g V cA x.2 y) hp es ∧ kep hp es0 es ∧ va_P D cl (zw V.2 es) H ∧ va_D A (zw V.2 es) ∧ va_S A H0 H locs ∧ es.length = V.2.length
theorem HS_ext {D : va_G} {cl : List vw_C} {A : Nat → Prop} {H0 : Heap} {V : EV} {cA : Nat → ClassId} {es0 : List va_E} {hp : HP} {g g' : List Int} {es : List va_E} {H : Heap} {locs : List Loc} (hx : gxt g g') (h : HS D cl A H0 V cA es0 hp g es H locs) : HS D cl A H0 V cA es0 hp g' es H locs :=
  ⟨zf2_mono (fun _ _ => relC_ext hx) h.1, h.2⟩
theorem loc_ext {g g' : List Int} {V : EV} {loc : List (Nat × AV)} {lv : List (Nat × Value)} (hx : gxt g g') (h : zf2 (locR g V) loc lv) : zf2 (locR g' V) loc lv := zf2_mono (fun _ _ q => ⟨q.1, gam_ext hx q.2.1, q.2.2⟩) h
theorem st_ext {g g' : List Int} {V : EV} {st : List AV} {sv : List Value} (hx : gxt g g') (h : zf2 (gam g V) st sv) : zf2 (gam g' V) st sv := zf2_mono (fun _ _ => gam_ext hx) h
/-- all that the interpreter's state says -/
def WA (Wf : Heap → List Loc → JFrame → Prop) (m : MethodId) (nL : Nat) (D : va_G) (cl : List vw_C) (A : Nat → Prop) (H0 : Heap) (V : EV) (cA : Nat → ClassId) (es0 : List va_E) (g0 : List Int) (a : AS) : Prop :=
  ∀ (g : List Int) (lv : List (Nat × Value)) (sv : List Value) (es : List va_E) (ls : Array Slot) (H : Heap) (locs : List Loc), gxt g0 g → GS a.2.2.2.1 g → lv_has ls nL lv → zf2 (locR g V) a.2.1 lv → zf2 (gam g V) a.2.2.1 sv → HS D cl A H0 V cA es0 a.2.2.2.2 g es H locs → Wf H locs (F0 m a.1 ls sv)
theorem gam_int {g : List Int} {V : EV} {a : AV} {v : Value} (h : gam g V a v) (ht : a.1 ≤ 2) : ∃ x : Int32, v = .int x := by
  obtain ⟨t, b, c⟩ := a
  simp only at ht
  match t, ht, h with
  | 0, _, ⟨x, h, _⟩ => exact ⟨x, h⟩
  | 1, _, ⟨x, h, _⟩ => exact ⟨x, h⟩
  | 2, _, ⟨x, h, _⟩ => exact ⟨x, h⟩
theorem gam_long {g : List Int} {V : EV} {a : AV} {v : Value} (h : gam g V a v) (ht : 3 ≤ a.1 ∧ a.1 ≤ 5) : ∃ x : Int64, v = .long x := by
  obtain ⟨t, b, c⟩ := a
  simp only at ht
  match t, ht, h with
  | 3, _, ⟨x, h, _⟩ => exact ⟨x, h⟩
  | 4, _, ⟨x, h, _⟩ => exact ⟨x, h⟩
  | 5, _, ⟨x, h, _⟩ => exact ⟨x, h⟩
theorem gam_ref {g : List Int} {V : EV} {a : AV} {v : Value} (h : gam g V a v) (ht : a.1 = 6) : ∃ r : Nat, V.2[a.2.1.toNat]? = some r ∧ v = .ref r := by
  obtain ⟨t, b, c⟩ := a
  simp only at ht
  subst ht
  exact h
theorem gam_cat {g : List Int} {V : EV} {a : AV} {v : Value} (h : gam g V a v) (ht : a.1 ≠ 8) : v.category = catA a := by
  obtain ⟨t, b, c⟩ := a
  simp only at ht
  match t, ht, h with
  | 0, _, ⟨x, h, _⟩ => subst h; rfl
  | 1, _, ⟨x, h, _⟩ => subst h; rfl
  | 2, _, ⟨x, h, _⟩ => subst h; rfl
  | 3, _, ⟨x, h, _⟩ => subst h; rfl
  | 4, _, ⟨x, h, _⟩ => subst h; rfl
  | 5, _, ⟨x, h, _⟩ => subst h; rfl
  | 6, _, ⟨x, _, h⟩ => subst h; rfl
  | 7, _, h => cases h; rfl
  | 9, _, h => exact h.elim
  | 10, _, h => exact h.elim
  | 11, _, ⟨x, _, h⟩ => subst h; rfl
  | _ + 12, _, h => exact h.elim
def fnd : List (Nat × AV) → Nat → Option AV
  | [], _ => none
  | (k, a) :: r, i => if k = i then some a else fnd r i
theorem fnd_ok {g : List Int} {V : EV} : ∀ {loc : List (Nat × AV)} {lv : List (Nat × Value)} {i : Nat} {a : AV}, zf2 (locR g V) loc lv → fnd loc i = some a → ∃ (k : Nat) (v : Value), lv[k]? = some (i, v) ∧ gam g V a v ∧ a.1 ≠ 8
  | [], _, _, _, _, h => by cases h
  | (k, b) :: r, [], _, _, hz, _ => hz.elim
  | (k, b) :: r, y :: lv, i, a, hz, h => by
    unfold fnd at h
    split at h
    · rename_i hk
      cases h
      subst hk
      obtain ⟨h1, h2, h3⟩ := hz.1
      simp only at h1
      subst h1
      exact ⟨0, y.2, rfl, h2, h3⟩
    · obtain ⟨k', v, h1, h2⟩ := fnd_ok (loc := r) (lv := lv) hz.2 h
      exact ⟨k' + 1, v, by simpa using h1, h2⟩
def flt1 (i : Nat) (loc : List (Nat × AV)) : List (Nat × AV) := loc.filter (fun q => !(q.1 == i) && !(q.1 + 1 == i && catA q.2 == 2))
theorem zf2_filter {α β : Type} {R : α → β → Prop} {f : α → Bool} {h : β → Bool} (hf : ∀ a b, R a b → f a = h b) : ∀ {as : List α} {bs : List β}, zf2 R as bs → zf2 R (as.filter f) (bs.filter h)
  | [], [], _ => trivial
  | a :: as, b :: bs, hz => by
    have ih := zf2_filter hf (as := as) (bs := bs) hz.2
    have e := hf a b hz.1
    by_cases hb : h b = true
    · rw [List.filter_cons_of_pos (e.trans hb), List.filter_cons_of_pos hb]; exact ⟨hz.1, ih⟩
    · rw [List.filter_cons_of_neg (by rw [e]; exact hb), List.filter_cons_of_neg hb]; exact ih
theorem flt1_ok {g : List Int} {V : EV} {loc : List (Nat × AV)} {lv : List (Nat × Value)} (i : Nat) (h : zf2 (locR g V) loc lv) : zf2 (locR g V) (flt1 i loc) (lv.filter (fun q => !(q.1 == i) && !(q.1 + 1 == i && q.2.category == 2))) :=
  zf2_filter (fun a b r => by obtain ⟨h1, h2, h3⟩ := r; rw [h1, gam_cat h2 h3]) h
/-- the tables of a method: its instructions, its locals, its constants (ints, longs), the fields that it names (index, kind of object, place, 0 int 1 boolean 2 long that may be written, 9 not) -/
abbrev TB : Type := List (Nat × ClassFile.Instr × Nat) × Nat × List (Nat × Int32) × List (Nat × Int64) × List (Nat × Nat × Nat × Nat)
def look {β : Type} : List (Nat × β) → Nat → Option β
  | [], _ => none
  | (k, b) :: r, i => if k = i then some b else look r i
theorem look_mem {β : Type} : ∀ {l : List (Nat × β)} {i : Nat} {b : β}, look l i = some b → (i, b) ∈ l
  | [], _, _, h => by cases h
  | (k, c) :: r, i, b, h => by
    unfold look at h
    split at h
    · rename_i hk; cases h; subst hk; exact List.mem_cons_self
    · exact List.mem_cons_of_mem _ (look_mem h)
def psh (a : AS) (len : Nat) (r : GI × AV) : List AS := [(a.1 + len, a.2.1, r.2 :: a.2.2.1, r.1, a.2.2.2.2)]
def ldI (a : AS) (i len : Nat) : Option (List AS) := match fnd a.2.1 i with
  | some v => if v.1 ≤ 2 then some (psh a len (a.2.2.2.1, v)) else none
  | none => none
def ldL (a : AS) (i len : Nat) : Option (List AS) := match fnd a.2.1 i with
  | some v => if 3 ≤ v.1 ∧ v.1 ≤ 5 then some (psh a len (a.2.2.2.1, v)) else none
  | none => none
def ldR (a : AS) (i len : Nat) : Option (List AS) := match fnd a.2.1 i with
  | some v => if v.1 = 6 then some (psh a len (a.2.2.2.1, v)) else none
  | none => none
def stI (nL : Nat) (a : AS) (i len : Nat) : Option (List AS) := match a.2.2.1 with
  | v :: st => if v.1 ≤ 2 ∧ i < nL then some [(a.1 + len, (i, v) :: flt1 i a.2.1, st, a.2.2.2.1, a.2.2.2.2)] else none
  | [] => none
def bin (f : GI → AV → AV → Option (GI × AV)) (a : AS) : Option (List AS) := match a.2.2.1 with
  | y :: x :: st => if x.1 ≤ 2 ∧ y.1 ≤ 2 then (match f a.2.2.2.1 x y with
    | some r => some [(a.1 + 1, a.2.1, r.2 :: st, r.1, a.2.2.2.2)]
    | none => none) else none
  | _ => none
def posI (a : AS) : Bool := match a.2.2.1 with
  | y :: _ => match ivI a.2.2.2.1 y with
    | some q => decide (0 < q.1)
    | none => false
  | [] => false
def brs (k : Nat) (a : AS) (st : List AV) (x y : AV) (tgt nxt : Nat) : Option (List AS) := match rfI k a.2.2.2.1 x y, rfI (cmpN k) a.2.2.2.1 x y with
  | some L1, some L2 => some ((L1.map fun G => (tgt, a.2.1, st, G, a.2.2.2.2)) ++ (L2.map fun G => (nxt, a.2.1, st, G, a.2.2.2.2)))
  | _, _ => none
def if1 (k : Nat) (off : Int) (a : AS) : Option (List AS) := match a.2.2.1 with
  | x :: st => if 0 ≤ (a.1 : Int) + off then brs k a st x (0, 0, 0) ((a.1 : Int) + off).toNat (a.1 + 3) else none
  | _ => none
def if2 (k : Nat) (off : Int) (a : AS) : Option (List AS) := match a.2.2.1 with
  | y :: x :: st => if 0 ≤ (a.1 : Int) + off then brs k a st x y ((a.1 : Int) + off).toNat (a.1 + 3) else none
  | _ => none
def cnd : ClassFile.Cond → Nat
  | .eq => 0
  | .ne => 1
  | .lt => 2
  | .ge => 3
  | .gt => 4
  | .le => 5
/-- lcmp and the branch behind it -/
def lcb (T : TB) (a : AS) : Option (List AS) := match a.2.2.1, look T.1 (a.1 + 1) with
  | y :: x :: st, some (.ifCond q off, 3) =>
    if 0 ≤ (a.1 : Int) + 1 + off then (match rfL (cnd q) a.2.2.2.1 x y, rfL (cmpN (cnd q)) a.2.2.2.1 x y with
      | some L1, some L2 => some ((L1.map fun G => (((a.1 : Int) + 1 + off).toNat, a.2.1, st, G, a.2.2.2.2)) ++ (L2.map fun G => (a.1 + 1 + 3, a.2.1, st, G, a.2.2.2.2)))
      | _, _ => none) else none
  | _, _ => none
end
section
/-! ===== a step without the heap ===== -/
/-- a long of two longs (false), or of a long and an int (true): any -/
def lgt (b : Bool) (a : AS) : Option (List AS) := match a.2.2.1 with
  | y :: x :: st => if (3 ≤ x.1 ∧ x.1 ≤ 5) ∧ ((b = true ∧ y.1 ≤ 2) ∨ (b = false ∧ 3 ≤ y.1 ∧ y.1 ≤ 5)) then some [(a.1 + 1, a.2.1, (mk5 a.2.2.2.1 topL).2 :: st, (mk5 a.2.2.2.1 topL).1, a.2.2.2.2)] else none
  | _ => none
def stpA (T : TB) (ins : ClassFile.Instr) (len : Nat) (a : AS) : Option (List AS) := match ins with
  | .iconst n => if len = 1 ∧ -2147483648 ≤ n ∧ n ≤ 2147483647 then some (psh a 1 (a.2.2.2.1, (0, n, 0))) else none
  | .bipush n => if len = 2 ∧ -128 ≤ n ∧ n ≤ 127 then some (psh a 2 (a.2.2.2.1, (0, n, 0))) else none
  | .sipush n => if len = 3 ∧ -32768 ≤ n ∧ n ≤ 32767 then some (psh a 3 (a.2.2.2.1, (0, n, 0))) else none
  | .lconst n => if len = 1 then some (psh a 1 (a.2.2.2.1, (3, ((n : Nat) : Int), 0))) else none
  | .ldc i => if len = 2 then (match look T.2.2.1 i with
    | some v => some (psh a 2 (a.2.2.2.1, (0, v.toInt, 0)))
    | none => none) else none
  | .ldc2_w i => if len = 3 then (match look T.2.2.2.1 i with
    | some v => some (psh a 3 (a.2.2.2.1, (3, v.toInt, 0)))
    | none => none) else none
  | .iload_n k => if len = 1 then ldI a k 1 else none
  | .iload i => if len = 2 then ldI a i 2 else none
  | .lload_n k => if len = 1 then ldL a k 1 else none
  | .lload i => if len = 2 then ldL a i 2 else none
  | .aload_n k => if len = 1 then ldR a k 1 else none
  | .aload i => if len = 2 then ldR a i 2 else none
  | .istore_n k => if len = 1 then stI T.2.1 a k 1 else none
  | .istore i => if len = 2 then stI T.2.1 a i 2 else none
  | .iinc i n => if len = 3 ∧ i < T.2.1 ∧ -2147483648 ≤ n ∧ n ≤ 2147483647 then (match fnd a.2.1 i with
    | some v => if v.1 ≤ 2 then (match addI a.2.2.2.1 v (0, n, 0) with
      | some r => if r.2.1 ≤ 2 then some [(a.1 + 3, (i, r.2) :: flt1 i a.2.1, a.2.2.1, r.1, a.2.2.2.2)] else none
      | none => none) else none
    | none => none) else none
  | .iadd => if len = 1 then bin addI a else none
  | .isub => if len = 1 then bin subI a else none
  | .imul => if len = 1 then bin (binF mulF) a else none
  | .iand => if len = 1 then bin (binF andF) a else none
  | .ior => if len = 1 then bin (binF topF) a else none
  | .ixor => if len = 1 then bin (binF topF) a else none
  | .ishl => if len = 1 then bin (binF shlF) a else none
  | .ishr => if len = 1 then bin (binF shrF) a else none
  | .iushr => if len = 1 then bin (binF topF) a else none
  | .idiv => if len = 1 ∧ posI a = true then bin (binF divF) a else none
  | .irem => if len = 1 ∧ posI a = true then bin (binF remF) a else none
  | .i2l => if len = 1 then (match a.2.2.1 with
    | x :: st => (match i2lA x with
      | some r => some [(a.1 + 1, a.2.1, r :: st, a.2.2.2.1, a.2.2.2.2)]
      | none => none)
    | _ => none) else none
  | .i2b => if len = 1 then (match a.2.2.1 with
    | x :: st => if x.1 ≤ 2 then some [(a.1 + 1, a.2.1, (mk2 a.2.2.2.1 (-128, 127)).2 :: st, (mk2 a.2.2.2.1 (-128, 127)).1, a.2.2.2.2)] else none
    | _ => none) else none
  | .dup => if len = 1 then (match a.2.2.1 with
    | x :: st => if x.1 ≤ 2 ∨ x.1 = 6 then some [(a.1 + 1, a.2.1, x :: x :: st, a.2.2.2.1, a.2.2.2.2)] else none
    | _ => none) else none
  | .dup2 => if len = 1 then (match a.2.2.1 with
    | x :: y :: st => if (x.1 ≤ 2 ∨ x.1 = 6) ∧ (y.1 ≤ 2 ∨ y.1 = 6) then some [(a.1 + 1, a.2.1, x :: y :: x :: y :: st, a.2.2.2.1, a.2.2.2.2)] else none
    | _ => none) else none
  | .pop => if len = 1 then (match a.2.2.1 with
    | x :: st => if x.1 ≤ 2 ∨ x.1 = 6 then some [(a.1 + 1, a.2.1, st, a.2.2.2.1, a.2.2.2.2)] else none
    | _ => none) else none
  | .ifCond q off => if len = 3 then if1 (cnd q) off a else none
  | .if_icmp q off => if len = 3 then if2 (cnd q) off a else none
  | .goto off => if len = 3 ∧ 0 ≤ (a.1 : Int) + off then some [(((a.1 : Int) + off).toNat, a.2.1, a.2.2.1, a.2.2.2.1, a.2.2.2.2)] else none
  | .lcmp => if len = 1 then lcb T a else none
  | .land => if len = 1 then lgt false a else none
  | .lor => if len = 1 then lgt false a else none
  | .lshl => if len = 1 then lgt true a else none
  | _ => none
theorem WA_psh {Wf : Heap → List Loc → JFrame → Prop} {m : MethodId} {nL : Nat} {D : va_G} {cl : List vw_C} {A : Nat → Prop} {H0 : Heap} {V : EV} {cA : Nat → ClassId} {es0 : List va_E} {g0 : List Int} {a : AS} {len : Nat} {r : GI × AV} (hL : ∀ b ∈ psh a len r, WA Wf m nL D cl A H0 V cA es0 g0 b)
    {g g' : List Int} {lv : List (Nat × Value)} {sv : List Value} {es : List va_E} {ls : Array Slot} {H : Heap} {locs : List Loc} {v : Value} (h0 : gxt g0 g) (hlv : lv_has ls nL lv) (hl : zf2 (locR g V) a.2.1 lv) (hs : zf2 (gam g V) a.2.2.1 sv) (hH : HS D cl A H0 V cA es0 a.2.2.2.2 g es H locs) (hx : gxt g g') (hG : GS r.1 g') (hv : gam g' V r.2 v) : Wf H locs (F0 m (a.1 + len) ls (v :: sv)) :=
  hL _ (List.mem_singleton.mpr rfl) g' lv (v :: sv) es ls H locs (gxt_tr h0 hx) hG hlv (loc_ext hx hl) ⟨hv, st_ext hx hs⟩ (HS_ext hx hH)
theorem bin_ok {Wf : Heap → List Loc → JFrame → Prop} {m : MethodId} {nL : Nat} {D : va_G} {cl : List vw_C} {A : Nat → Prop} {H0 : Heap} {V : EV} {cA : Nat → ClassId} {es0 : List va_E} {g0 : List Int} {a : AS} {f : GI → AV → AV → Option (GI × AV)} {op : Int32 → Int32 → Int32} (hf : BinS f op) {L : List AS} (h : bin f a = some L) (hL : ∀ b ∈ L, WA Wf m nL D cl A H0 V cA es0 g0 b)
    (hrow : ∀ (x y : Int32) (sv : List Value) (ls : Array Slot) (H : Heap) (locs : List Loc), (∀ q, a.2.2.1.head?.bind (ivI a.2.2.2.1) = some q → inI q y.toInt) → Wf H locs (F0 m (a.1 + 1) ls (.int (op x y) :: sv)) → Wf H locs (F0 m a.1 ls (.int y :: .int x :: sv))) : WA Wf m nL D cl A H0 V cA es0 g0 a := by
  intro g lv sv es ls H locs h0 hG hlv hl hs hH
  unfold bin at h
  split at h
  · rename_i y x st hst
    split at h
    · rename_i ht
      split at h
      · rename_i r hr
        cases h
        rw [hst] at hs
        obtain ⟨vy, sv1, rfl, hy, hs1⟩ := zf2_cons hs
        obtain ⟨vx, sv2, rfl, hx, hs2⟩ := zf2_cons hs1
        obtain ⟨X, rfl⟩ := gam_int hx ht.1
        obtain ⟨Y, rfl⟩ := gam_int hy ht.2
        obtain ⟨g', e1, e2, e3⟩ := hf _ _ V _ _ _ _ _ hG hx hy hr
        refine hrow X Y sv2 ls H locs (fun q hq => ?_) ?_
        · rw [hst] at hq
          obtain ⟨z, e4, e5⟩ := ivI_ok hG hy (by simpa using hq)
          cases e4
          exact e5
        · exact hL _ (List.mem_singleton.mpr rfl) g' lv _ es ls H locs (gxt_tr h0 e1) e2 hlv (loc_ext e1 hl) ⟨e3, st_ext e1 hs2⟩ (HS_ext e1 hH)
      · cases h
    · cases h
  · cases h
theorem brs_ok {Wf : Heap → List Loc → JFrame → Prop} {m : MethodId} {nL : Nat} {D : va_G} {cl : List vw_C} {A : Nat → Prop} {H0 : Heap} {V : EV} {cA : Nat → ClassId} {es0 : List va_E} {g0 : List Int} {a : AS} {k : Nat} {st : List AV} {x y : AV} {tgt nxt : Nat} {L : List AS} (h : brs k a st x y tgt nxt = some L) (hL : ∀ b ∈ L, WA Wf m nL D cl A H0 V cA es0 g0 b)
    {g : List Int} {lv : List (Nat × Value)} {sv : List Value} {es : List va_E} {ls : Array Slot} {H : Heap} {locs : List Loc} {vx vy : Value} (h0 : gxt g0 g) (hG : GS a.2.2.2.1 g) (hlv : lv_has ls nL lv) (hl : zf2 (locR g V) a.2.1 lv) (hx : gam g V x vx) (hy : gam g V y vy) (hs : zf2 (gam g V) st sv) (hH : HS D cl A H0 V cA es0 a.2.2.2.2 g es H locs) :
    ∃ X Y : Int32, vx = .int X ∧ vy = .int Y ∧ (cmpH k X.toInt Y.toInt → Wf H locs (F0 m tgt ls sv)) ∧ (¬ cmpH k X.toInt Y.toInt → Wf H locs (F0 m nxt ls sv)) := by
  unfold brs at h
  split at h
  · rename_i L1 L2 h1 h2
    cases h
    obtain ⟨X, Y, e1, e2, e3⟩ := rfI_ok hG hx hy h1
    obtain ⟨X', Y', e4, e5, e6⟩ := rfI_ok hG hx hy h2
    subst e1; subst e2
    cases e4; cases e5
    refine ⟨X, Y, rfl, rfl, fun hc => ?_, fun hc => ?_⟩
    · obtain ⟨G', m1, m2⟩ := e3 hc
      exact hL _ (List.mem_append_left _ (List.mem_map.mpr ⟨G', m1, rfl⟩)) g lv sv es ls H locs h0 m2 hlv hl hs hH
    · obtain ⟨G', m1, m2⟩ := e6 (cmpN_ok hc)
      exact hL _ (List.mem_append_right _ (List.mem_map.mpr ⟨G', m1, rfl⟩)) g lv sv es ls H locs h0 m2 hlv hl hs hH
  · cases h
theorem ae_z : (0 : Int32).toInt = 0 := by decide
/-- what the tables of a method must be -/
def FOK (own : String) (cl : List vw_C) (Ts : List Jvm.Cond) (q : Nat × Nat × Nat × Nat) : Prop := ∃ (C : String) (F : u_T) (N : Nat) (ty : Nat → FieldType), cl[q.2.1]? = some (C, F, N) ∧ q.2.2.1 < N ∧ (∀ w ∈ u_ws C F N, w ∈ Ts) ∧ Jvm.Cond.fieldLink own q.1 (F q.2.2.1).1 (F q.2.2.1).2.1 (F q.2.2.1).2.2.1 ∈ Ts ∧ (∀ k, k < N → parseFieldDescriptor (F k).2.2.1 = some (ty k)) ∧ (∀ a, a < N → ∀ b, b < N → a ≠ b → (F a).2.1 ≠ (F b).2.1) ∧ (q.2.2.2 ≤ 2 → (F q.2.2.1).2.2.2 = false ∧ ty q.2.2.1 = (if q.2.2.2 = 0 then .int else if q.2.2.2 = 1 then .boolean else .long))
def TOK (own : String) (cl : List vw_C) (Ts : List Jvm.Cond) (cc : ByteArray) (T : TB) : Prop := (∀ q ∈ T.1, decode cc q.1 = .ok q.2) ∧ (∀ q ∈ T.2.2.1, Jvm.Cond.constant own q.1 q.2 ∈ Ts) ∧ (∀ q ∈ T.2.2.2.1, Jvm.Cond.constantLong own q.1 q.2 ∈ Ts) ∧ (∀ q ∈ T.2.2.2.2, FOK own cl Ts q)
end
section
/-! ===== a step without the heap is right ===== -/
section STA
variable {p : Program} {l : Launch} {e : Env} {R : Room} {s : State} {m : MethodId} {args : Array Value} {below : List Frame} {meth : Method} {c : Code} {cs0 ss0 : Nat} {Q : State → Prop} {cc : ByteArray} {own : String} {Ts : List Jvm.Cond} {D : va_G} {cl : List vw_C} {A : Nat → Prop} {H0 : Heap} {V : EV} {cA : Nat → ClassId} {es0 : List va_E} {g0 : List Int}
abbrev WW (p : Program) (l : Launch) (e : Env) (R : Room) (s : State) (m : MethodId) (args : Array Value) (below : List Frame) (meth : Method) (c : Code) (cs0 ss0 : Nat) (Q : State → Prop) : Heap → List Loc → JFrame → Prop := fun H locs g => W p l e R s m args below meth c H locs cs0 ss0 Q g
theorem ae_ofInt {n : Int} (h1 : -2147483648 ≤ n) (h2 : n ≤ 2147483647) : (Int32.ofInt n).toInt = n := by rw [Int32.toInt_ofInt, ae_bm h1 h2]
theorem ldI_ok {a : AS} {i len : Nat} {L : List AS} {nL : Nat} (h : ldI a i len = some L) (hL : ∀ b ∈ L, WA (WW p l e R s m args below meth c cs0 ss0 Q) m nL D cl A H0 V cA es0 g0 b)
    (hrow : ∀ (x : Int32) (sv : List Value) (ls : Array Slot) (H : Heap) (locs : List Loc), ls[i]? = some (.val (.int x)) → WW p l e R s m args below meth c cs0 ss0 Q H locs (F0 m (a.1 + len) ls (.int x :: sv)) → WW p l e R s m args below meth c cs0 ss0 Q H locs (F0 m a.1 ls sv)) : WA (WW p l e R s m args below meth c cs0 ss0 Q) m nL D cl A H0 V cA es0 g0 a := by
  intro g lv sv es ls H locs h0 hG hlv hl hs hH
  unfold ldI at h
  split at h
  · rename_i v hv
    split at h
    · rename_i ht
      cases h
      obtain ⟨k, w, h1, h2, h3⟩ := fnd_ok hl hv
      obtain ⟨x, rfl⟩ := gam_int h2 ht
      exact hrow x sv ls H locs (lv_at hlv k h1) (WA_psh hL h0 hlv hl hs hH gxt_rf hG h2)
    · cases h
  · cases h
theorem ldL_ok {a : AS} {i len : Nat} {L : List AS} {nL : Nat} (h : ldL a i len = some L) (hL : ∀ b ∈ L, WA (WW p l e R s m args below meth c cs0 ss0 Q) m nL D cl A H0 V cA es0 g0 b)
    (hrow : ∀ (x : Int64) (sv : List Value) (ls : Array Slot) (H : Heap) (locs : List Loc), ls[i]? = some (.val (.long x)) → WW p l e R s m args below meth c cs0 ss0 Q H locs (F0 m (a.1 + len) ls (.long x :: sv)) → WW p l e R s m args below meth c cs0 ss0 Q H locs (F0 m a.1 ls sv)) : WA (WW p l e R s m args below meth c cs0 ss0 Q) m nL D cl A H0 V cA es0 g0 a := by
  intro g lv sv es ls H locs h0 hG hlv hl hs hH
  unfold ldL at h
  split at h
  · rename_i v hv
    split at h
    · rename_i ht
      cases h
      obtain ⟨k, w, h1, h2, h3⟩ := fnd_ok hl hv
      obtain ⟨x, rfl⟩ := gam_long h2 ht
      exact hrow x sv ls H locs (lv_at hlv k h1) (WA_psh hL h0 hlv hl hs hH gxt_rf hG h2)
    · cases h
  · cases h
theorem ldR_ok {a : AS} {i len : Nat} {L : List AS} {nL : Nat} (h : ldR a i len = some L) (hL : ∀ b ∈ L, WA (WW p l e R s m args below meth c cs0 ss0 Q) m nL D cl A H0 V cA es0 g0 b)
    (hrow : ∀ (x : Nat) (sv : List Value) (ls : Array Slot) (H : Heap) (locs : List Loc), ls[i]? = some (.val (.ref x)) → WW p l e R s m args below meth c cs0 ss0 Q H locs (F0 m (a.1 + len) ls (.ref x :: sv)) → WW p l e R s m args below meth c cs0 ss0 Q H locs (F0 m a.1 ls sv)) : WA (WW p l e R s m args below meth c cs0 ss0 Q) m nL D cl A H0 V cA es0 g0 a := by
  intro g lv sv es ls H locs h0 hG hlv hl hs hH
  unfold ldR at h
  split at h
  · rename_i v hv
    split at h
    · rename_i ht
      cases h
      obtain ⟨k, w, h1, h2, h3⟩ := fnd_ok hl hv
      obtain ⟨x, h4, rfl⟩ := gam_ref h2 ht
      exact hrow x sv ls H locs (lv_at hlv k h1) (WA_psh hL h0 hlv hl hs hH gxt_rf hG h2)
    · cases h
  · cases h
theorem stI_ok {a : AS} {i len : Nat} {L : List AS} {nL : Nat} (h : stI nL a i len = some L) (hL : ∀ b ∈ L, WA (WW p l e R s m args below meth c cs0 ss0 Q) m nL D cl A H0 V cA es0 g0 b)
    (hrow : ∀ (x : Int32) (sv : List Value) (ls : Array Slot) (H : Heap) (locs : List Loc) (lv : List (Nat × Value)), lv_has ls nL lv → i < nL → (∀ ls' : Array Slot, lv_has ls' nL ((i, Value.int x) :: lv.filter (fun q => !(q.1 == i) && !(q.1 + 1 == i && q.2.category == 2))) → WW p l e R s m args below meth c cs0 ss0 Q H locs (F0 m (a.1 + len) ls' sv)) → WW p l e R s m args below meth c cs0 ss0 Q H locs (F0 m a.1 ls (.int x :: sv))) : WA (WW p l e R s m args below meth c cs0 ss0 Q) m nL D cl A H0 V cA es0 g0 a := by
  intro g lv sv es ls H locs h0 hG hlv hl hs hH
  unfold stI at h
  split at h
  · rename_i v st hst
    split at h
    · rename_i ht
      cases h
      rw [hst] at hs
      obtain ⟨w, sv1, rfl, h2, hs1⟩ := zf2_cons hs
      obtain ⟨x, rfl⟩ := gam_int h2 ht.1
      refine hrow x sv1 ls H locs lv hlv ht.2 (fun ls' hls' => ?_)
      exact hL _ (List.mem_singleton.mpr rfl) g _ sv1 es ls' H locs h0 hG hls' ⟨⟨rfl, h2, by show v.1 ≠ 8; have := ht.1; omega⟩, flt1_ok i hl⟩ hs1 hH
    · cases h
  · cases h
theorem ae_l0 : (Int64.ofNat 0).toInt = 0 := by decide
theorem ae_l1 : (Int64.ofNat 1).toInt = 1 := by decide
theorem ae_lt0 (x : Int32) : x < 0 ↔ x.toInt < 0 := by rw [Int32.lt_iff_toInt_lt, ae_z]
theorem ae_ge0 (x : Int32) : 0 ≤ x ↔ 0 ≤ x.toInt := by rw [Int32.le_iff_toInt_le, ae_z]
theorem ae_gt0 (x : Int32) : 0 < x ↔ 0 < x.toInt := by rw [Int32.lt_iff_toInt_lt, ae_z]
theorem ae_le0 (x : Int32) : x ≤ 0 ↔ x.toInt ≤ 0 := by rw [Int32.le_iff_toInt_le, ae_z]
theorem ae_eq0 (x : Int32) : x = 0 ↔ x.toInt = 0 := by rw [← Int32.toInt_inj, ae_z]
set_option maxHeartbeats 1000000 in
theorem if1_ok (hx : p.tables.exec = Jvm.exec) (hb : c.code = cc) {nL : Nat} {a : AS} {q : ClassFile.Cond} {off : Int} {L : List AS} (hd : decode cc a.1 = .ok (.ifCond q off, 3)) (h : if1 (cnd q) off a = some L) (hL : ∀ b ∈ L, WA (WW p l e R s m args below meth c cs0 ss0 Q) m nL D cl A H0 V cA es0 g0 b) : WA (WW p l e R s m args below meth c cs0 ss0 Q) m nL D cl A H0 V cA es0 g0 a := by
  intro g lv sv es ls H locs h0 hG hlv hl hs hH
  unfold if1 at h
  split at h
  · rename_i x st hst
    split at h
    · rename_i hp
      rw [hst] at hs
      obtain ⟨w, sv1, rfl, h2, hs1⟩ := zf2_cons hs
      obtain ⟨X, Y, rfl, hY, kt, kf⟩ := brs_ok h hL (vy := .int 0) h0 hG hlv hl h2 ⟨0, rfl, ae_z⟩ hs1 hH
      cases hY
      rw [ae_z] at kt kf
      have ht : (a.1 : Int) + off = ((((a.1 : Int) + off).toNat : Nat) : Int) := by omega
      cases q with
      | eq => exact lv_if_eq hx hb hd ht (fun hc => kt ((ae_eq0 X).mp hc)) (fun hc => kf (fun k => hc ((ae_eq0 X).mpr k)))
      | ne => exact lv_if_ne hx hb hd ht (fun hc => kt (fun k => hc ((ae_eq0 X).mpr k))) (fun hc => kf (fun k => k ((ae_eq0 X).mp hc)))
      | lt => exact lv_if_lt hx hb hd ht (fun hc => kt ((ae_lt0 X).mp hc)) (fun hc => kf (fun k => hc ((ae_lt0 X).mpr k)))
      | ge => exact lv_if_ge hx hb hd ht (fun hc => kt ((ae_ge0 X).mp hc)) (fun hc => kf (fun k => hc ((ae_ge0 X).mpr k)))
      | gt => exact lv_if_gt hx hb hd ht (fun hc => kt ((ae_gt0 X).mp hc)) (fun hc => kf (fun k => hc ((ae_gt0 X).mpr k)))
      | le => exact lv_if_le hx hb hd ht (fun hc => kt ((ae_le0 X).mp hc)) (fun hc => kf (fun k => hc ((ae_le0 X).mpr k)))
    · cases h
  · cases h
set_option maxHeartbeats 1000000 in
theorem if2_ok (hx : p.tables.exec = Jvm.exec) (hb : c.code = cc) {nL : Nat} {a : AS} {q : ClassFile.Cond} {off : Int} {L : List AS} (hd : decode cc a.1 = .ok (.if_icmp q off, 3)) (h : if2 (cnd q) off a = some L) (hL : ∀ b ∈ L, WA (WW p l e R s m args below meth c cs0 ss0 Q) m nL D cl A H0 V cA es0 g0 b) : WA (WW p l e R s m args below meth c cs0 ss0 Q) m nL D cl A H0 V cA es0 g0 a := by
  intro g lv sv es ls H locs h0 hG hlv hl hs hH
  unfold if2 at h
  split at h
  · rename_i y x st hst
    split at h
    · rename_i hp
      rw [hst] at hs
      obtain ⟨w, sv1, rfl, h2, hs1⟩ := zf2_cons hs
      obtain ⟨w2, sv2, rfl, h3, hs2⟩ := zf2_cons hs1
      obtain ⟨X, Y, rfl, rfl, kt, kf⟩ := brs_ok h hL h0 hG hlv hl h3 h2 hs2 hH
      have ht : (a.1 : Int) + off = ((((a.1 : Int) + off).toNat : Nat) : Int) := by omega
      cases q with
      | eq => exact lv_icmp_eq hx hb hd ht (fun hc => kt (Int32.toInt_inj.mpr hc)) (fun hc => kf (fun k => hc (Int32.toInt_inj.mp k)))
      | ne => exact lv_icmp_ne hx hb hd ht (fun hc => kt (fun k => hc (Int32.toInt_inj.mp k))) (fun hc => kf (fun k => k (Int32.toInt_inj.mpr hc)))
      | lt => exact lv_icmp_lt hx hb hd ht (fun hc => kt (Int32.lt_iff_toInt_lt.mp hc)) (fun hc => kf (fun k => hc (Int32.lt_iff_toInt_lt.mpr k)))
      | ge => exact lv_icmp_ge hx hb hd ht (fun hc => kt (Int32.le_iff_toInt_le.mp hc)) (fun hc => kf (fun k => hc (Int32.le_iff_toInt_le.mpr k)))
      | gt => exact lv_icmp_gt hx hb hd ht (fun hc => kt (Int32.lt_iff_toInt_lt.mp hc)) (fun hc => kf (fun k => hc (Int32.lt_iff_toInt_lt.mpr k)))
      | le => exact lv_icmp_le hx hb hd ht (fun hc => kt (Int32.le_iff_toInt_le.mp hc)) (fun hc => kf (fun k => hc (Int32.le_iff_toInt_le.mpr k)))
    · cases h
  · cases h
set_option maxHeartbeats 1000000 in
theorem lcb_ok (hx : p.tables.exec = Jvm.exec) (hb : c.code = cc) {nL : Nat} {T : TB} (hT : ∀ q ∈ T.1, decode cc q.1 = .ok q.2) {a : AS} {L : List AS} (hd : decode cc a.1 = .ok (.lcmp, 1)) (h : lcb T a = some L) (hL : ∀ b ∈ L, WA (WW p l e R s m args below meth c cs0 ss0 Q) m nL D cl A H0 V cA es0 g0 b) : WA (WW p l e R s m args below meth c cs0 ss0 Q) m nL D cl A H0 V cA es0 g0 a := by
  intro g lv sv es ls H locs h0 hG hlv hl hs hH
  unfold lcb at h
  split at h
  · rename_i y x st q off hst hlk
    split at h
    · rename_i hp
      split at h
      · rename_i L1 L2 h1 h2
        cases h
        rw [hst] at hs
        obtain ⟨w, sv1, rfl, g2, hs1⟩ := zf2_cons hs
        obtain ⟨w2, sv2, rfl, g3, hs2⟩ := zf2_cons hs1
        obtain ⟨X, Y, e1, e2, e3⟩ := rfL_ok hG g3 g2 h1
        obtain ⟨X', Y', e4, e5, e6⟩ := rfL_ok hG g3 g2 h2
        subst e1; subst e2
        cases e4; cases e5
        have kt : cmpH (cnd q) X.toInt Y.toInt → WW p l e R s m args below meth c cs0 ss0 Q H locs (F0 m (((a.1 : Int) + 1 + off).toNat) ls sv2) := fun hc => by
          obtain ⟨G', m1, m2⟩ := e3 hc
          exact hL _ (List.mem_append_left _ (List.mem_map.mpr ⟨G', m1, rfl⟩)) g lv sv2 es ls H locs h0 m2 hlv hl hs2 hH
        have kf : ¬ cmpH (cnd q) X.toInt Y.toInt → WW p l e R s m args below meth c cs0 ss0 Q H locs (F0 m (a.1 + 1 + 3) ls sv2) := fun hc => by
          obtain ⟨G', m1, m2⟩ := e6 (cmpN_ok hc)
          exact hL _ (List.mem_append_right _ (List.mem_map.mpr ⟨G', m1, rfl⟩)) g lv sv2 es ls H locs h0 m2 hlv hl hs2 hH
        have hd2 : decode cc (a.1 + 1) = .ok (.ifCond q off, 3) := hT (a.1 + 1, .ifCond q off, 3) (look_mem hlk)
        have ht : ((a.1 + 1 : Nat) : Int) + off = ((((a.1 : Int) + 1 + off).toNat : Nat) : Int) := by omega
        refine W.lcmp hx hb hd ?_
        cases q with
        | eq => exact lv_if_eq hx hb hd2 ht (fun hc => kt (Int64.toInt_inj.mpr ((lg_cmp_eq X Y).mp hc))) (fun hc => kf (fun k => hc ((lg_cmp_eq X Y).mpr (Int64.toInt_inj.mp k))))
        | ne => exact lv_if_ne hx hb hd2 ht (fun hc => kt (fun k => hc ((lg_cmp_eq X Y).mpr (Int64.toInt_inj.mp k)))) (fun hc => kf (fun k => k (Int64.toInt_inj.mpr ((lg_cmp_eq X Y).mp hc))))
        | lt => exact lv_if_lt hx hb hd2 ht (fun hc => kt (Int64.lt_iff_toInt_lt.mp ((lg_cmp_lt X Y).mp hc))) (fun hc => kf (fun k => hc ((lg_cmp_lt X Y).mpr (Int64.lt_iff_toInt_lt.mpr k))))
        | ge => exact lv_if_ge hx hb hd2 ht (fun hc => kt (Int64.le_iff_toInt_le.mp ((lg_cmp_ge X Y).mp hc))) (fun hc => kf (fun k => hc ((lg_cmp_ge X Y).mpr (Int64.le_iff_toInt_le.mpr k))))
        | gt => exact lv_if_gt hx hb hd2 ht (fun hc => kt (Int64.lt_iff_toInt_lt.mp ((lg_cmp_gt X Y).mp hc))) (fun hc => kf (fun k => hc ((lg_cmp_gt X Y).mpr (Int64.lt_iff_toInt_lt.mpr k))))
        | le => exact lv_if_le hx hb hd2 ht (fun hc => kt (Int64.le_iff_toInt_le.mp ((lg_cmp_le X Y).mp hc))) (fun hc => kf (fun k => hc ((lg_cmp_le X Y).mpr (Int64.le_iff_toInt_le.mpr k))))
      · cases h
    · cases h
  · cases h
theorem cat_ok {g : List Int} {a : AV} {v : Value} (h : gam g V a v) (ht : a.1 ≤ 2 ∨ a.1 = 6) : v.category = 1 := by
  rw [gam_cat h (by omega)]
  unfold catA
  rw [if_neg (by omega)]
theorem lgt_ok {nL : Nat} {a : AS} {b : Bool} {L : List AS} (h : lgt b a = some L) (hL : ∀ x ∈ L, WA (WW p l e R s m args below meth c cs0 ss0 Q) m nL D cl A H0 V cA es0 g0 x)
    (hrow : ∀ (x : Int64) (y : Value) (sv : List Value) (ls : Array Slot) (H : Heap) (locs : List Loc), (if b then ∃ z : Int32, y = .int z else ∃ z : Int64, y = .long z) → ∃ r : Int64, WW p l e R s m args below meth c cs0 ss0 Q H locs (F0 m (a.1 + 1) ls (.long r :: sv)) → WW p l e R s m args below meth c cs0 ss0 Q H locs (F0 m a.1 ls (y :: .long x :: sv))) : WA (WW p l e R s m args below meth c cs0 ss0 Q) m nL D cl A H0 V cA es0 g0 a := by
  intro g lv sv es ls H locs h0 hG hlv hl hs hH
  unfold lgt at h
  split at h
  · rename_i y x st hst
    split at h
    · rename_i ht
      cases h
      rw [hst] at hs
      obtain ⟨vy, sv1, rfl, hy, hs1⟩ := zf2_cons hs
      obtain ⟨vx, sv2, rfl, hx, hs2⟩ := zf2_cons hs1
      obtain ⟨X, rfl⟩ := gam_long hx ht.1
      obtain ⟨r, hk⟩ := hrow X vy sv2 ls H locs (by
        rcases ht.2 with ⟨rfl, h2⟩ | ⟨rfl, h2⟩
        · exact gam_int hy h2
        · exact gam_long hy h2)
      obtain ⟨g', e4, e5, e6⟩ := mk5_ok (V := V) hG r (topL_ok r)
      exact hk (hL _ (List.mem_singleton.mpr rfl) g' lv _ es ls H locs (gxt_tr h0 e4) e5 hlv (loc_ext e4 hl) ⟨e6, st_ext e4 hs2⟩ (HS_ext e4 hH))
    · cases h
  · cases h
set_option maxHeartbeats 4000000 in
theorem stpA_ok (hx : p.tables.exec = Jvm.exec) (hb : c.code = cc) (hown : s.vm.findClass own = some m.cls) (hts : ∀ w ∈ Ts, w.before args s = true) {T : TB} (hT : TOK own cl Ts cc T) {a : AS} {ins : ClassFile.Instr} {len : Nat} {L : List AS} (hd : decode cc a.1 = .ok (ins, len)) (h : stpA T ins len a = some L) (hL : ∀ b ∈ L, WA (WW p l e R s m args below meth c cs0 ss0 Q) m T.2.1 D cl A H0 V cA es0 g0 b) : WA (WW p l e R s m args below meth c cs0 ss0 Q) m T.2.1 D cl A H0 V cA es0 g0 a := by
  unfold stpA at h
  split at h
  · split at h
    · rename_i n hc; obtain ⟨rfl, h1, h2⟩ := hc; cases h
      intro g lv sv es ls H locs h0 hG hlv hl hs hH
      exact lv_iconst hx hb hd rfl (WA_psh hL h0 hlv hl hs hH gxt_rf hG ⟨_, rfl, ae_ofInt h1 h2⟩)
    · cases h
  · split at h
    · rename_i n hc; obtain ⟨rfl, h1, h2⟩ := hc; cases h
      intro g lv sv es ls H locs h0 hG hlv hl hs hH
      exact lv_bipush hx hb hd rfl (WA_psh hL h0 hlv hl hs hH gxt_rf hG ⟨_, rfl, by rw [Int8.toInt_toInt32, Int8.toInt_ofInt, show Int8.size = 256 from rfl, Int.bmod_eq_of_le (by omega) (by omega)]⟩)
    · cases h
  · split at h
    · rename_i n hc; obtain ⟨rfl, h1, h2⟩ := hc; cases h
      intro g lv sv es ls H locs h0 hG hlv hl hs hH
      exact lv_sipush hx hb hd rfl (WA_psh hL h0 hlv hl hs hH gxt_rf hG ⟨_, rfl, by rw [Int16.toInt_toInt32, Int16.toInt_ofInt, show Int16.size = 65536 from rfl, Int.bmod_eq_of_le (by omega) (by omega)]⟩)
    · cases h
  · split at h
    · rename_i n hc; subst hc; cases h
      intro g lv sv es ls H locs h0 hG hlv hl hs hH
      exact lv_lconst hx hb hd rfl (WA_psh hL h0 hlv hl hs hH gxt_rf hG ⟨_, rfl, by match n with | 0 => exact ae_l0 | 1 => exact ae_l1⟩)
    · cases h
  · split at h
    · rename_i i hc; subst hc
      split at h
      · rename_i v hv; cases h
        intro g lv sv es ls H locs h0 hG hlv hl hs hH
        exact lv_ldc hx hb hown (hts _ (hT.2.1 _ (look_mem hv))) hd (WA_psh hL h0 hlv hl hs hH gxt_rf hG ⟨_, rfl, rfl⟩)
      · cases h
    · cases h
  · split at h
    · rename_i i hc; subst hc
      split at h
      · rename_i v hv; cases h
        intro g lv sv es ls H locs h0 hG hlv hl hs hH
        exact lv_ldc2 hx hb hown (hts _ (hT.2.2.1 _ (look_mem hv))) hd (WA_psh hL h0 hlv hl hs hH gxt_rf hG ⟨_, rfl, rfl⟩)
      · cases h
    · cases h
  · split at h
    · rename_i k hc; subst hc
      exact ldI_ok h hL (fun x sv ls H locs h1 h2 => lv_iload_n hx hb hd rfl h1 h2)
    · cases h
  · split at h
    · rename_i k hc; subst hc
      exact ldI_ok h hL (fun x sv ls H locs h1 h2 => lv_iload hx hb hd h1 h2)
    · cases h
  · split at h
    · rename_i k hc; subst hc
      exact ldL_ok h hL (fun x sv ls H locs h1 h2 => lv_lload_n hx hb hd rfl h1 h2)
    · cases h
  · split at h
    · rename_i k hc; subst hc
      exact ldL_ok h hL (fun x sv ls H locs h1 h2 => lv_lload hx hb hd h1 h2)
    · cases h
  · split at h
    · rename_i k hc; subst hc
      exact ldR_ok h hL (fun x sv ls H locs h1 h2 => lv_aload_n hx hb hd rfl h1 h2)
    · cases h
  · split at h
    · rename_i k hc; subst hc
      exact ldR_ok h hL (fun x sv ls H locs h1 h2 => lv_aload hx hb hd h1 h2)
    · cases h
  · split at h
    · rename_i k hc; subst hc
      exact stI_ok h hL (fun x sv ls H locs lv h1 h2 h3 => lv_istore_n hx hb hd rfl h1 h2 rfl h3)
    · cases h
  · split at h
    · rename_i k hc; subst hc
      exact stI_ok h hL (fun x sv ls H locs lv h1 h2 h3 => lv_istore hx hb hd h1 h2 rfl h3)
    · cases h
  · split at h
    · rename_i i n hc; obtain ⟨rfl, hi, h1, h2⟩ := hc
      split at h
      · rename_i v hv
        split at h
        · rename_i ht
          split at h
          · rename_i r hr
            split at h
            · rename_i ht2
              cases h
              intro g lv sv es ls H locs h0 hG hlv hl hs hH
              obtain ⟨k, w, e1, e2, e3⟩ := fnd_ok hl hv
              obtain ⟨x, rfl⟩ := gam_int e2 ht
              obtain ⟨g', e4, e5, e6⟩ := addI_ok _ _ V _ (0, n, 0) x (Int32.ofInt n) _ hG e2 ⟨_, rfl, ae_ofInt h1 h2⟩ hr
              refine lv_iinc hx hb hd hlv e1 rfl hi rfl (fun ls' hls' => ?_)
              exact hL _ (List.mem_singleton.mpr rfl) g' _ sv es ls' H locs (gxt_tr h0 e4) e5 hls' ⟨⟨rfl, e6, by show r.2.1 ≠ 8; omega⟩, flt1_ok i (loc_ext e4 hl)⟩ (st_ext e4 hs) (HS_ext e4 hH)
            · cases h
          · cases h
        · cases h
      · cases h
    · cases h
  · split at h
    · rename_i hc; subst hc
      exact bin_ok addI_ok h hL (fun x y sv ls H locs _ k => lv_iadd hx hb hd k)
    · cases h
  · split at h
    · rename_i hc; subst hc
      exact bin_ok subI_ok h hL (fun x y sv ls H locs _ k => lv_isub hx hb hd k)
    · cases h
  · split at h
    · rename_i hc; subst hc
      exact bin_ok (binF_ok mulF_ok) h hL (fun x y sv ls H locs _ k => lv_imul hx hb hd k)
    · cases h
  · split at h
    · rename_i hc; subst hc
      exact bin_ok (binF_ok andF_ok) h hL (fun x y sv ls H locs _ k => lv_iand hx hb hd k)
    · cases h
  · split at h
    · rename_i hc; subst hc
      exact bin_ok (binF_ok (op := fun x y => x ||| y) topF_ok) h hL (fun x y sv ls H locs _ k => lv_ior hx hb hd k)
    · cases h
  · split at h
    · rename_i hc; subst hc
      exact bin_ok (binF_ok (op := fun x y => x ^^^ y) topF_ok) h hL (fun x y sv ls H locs _ k => lv_ixor hx hb hd k)
    · cases h
  · split at h
    · rename_i hc; subst hc
      exact bin_ok (binF_ok shlF_ok) h hL (fun x y sv ls H locs _ k => lv_ishl hx hb hd k)
    · cases h
  · split at h
    · rename_i hc; subst hc
      exact bin_ok (binF_ok shrF_ok) h hL (fun x y sv ls H locs _ k => lv_ishr hx hb hd k)
    · cases h
  · split at h
    · rename_i hc; subst hc
      exact bin_ok (binF_ok (op := fun x y => (x.toUInt32 >>> (y.toUInt32 &&& Int32.toUInt32 31)).toInt32) topF_ok) h hL (fun x y sv ls H locs _ k => lv_iushr hx hb hd rfl k)
    · cases h
  · split at h
    · rename_i hc; obtain ⟨rfl, hp⟩ := hc
      refine bin_ok (binF_ok divF_ok) h hL (fun x y sv ls H locs hy k => lv_idiv hx hb hd ?_ k)
      unfold posI at hp
      split at hp
      · rename_i z st hst
        split at hp
        · rename_i q hq
          have := hy q (by rw [hst]; simpa using hq)
          have hp := of_decide_eq_true hp
          unfold inI at this
          rw [ae_eq0]; omega
        · cases hp
      · cases hp
    · cases h
  · split at h
    · rename_i hc; obtain ⟨rfl, hp⟩ := hc
      refine bin_ok (binF_ok remF_ok) h hL (fun x y sv ls H locs hy k => lv_irem hx hb hd ?_ k)
      unfold posI at hp
      split at hp
      · rename_i z st hst
        split at hp
        · rename_i q hq
          have := hy q (by rw [hst]; simpa using hq)
          have hp := of_decide_eq_true hp
          unfold inI at this
          rw [ae_eq0]; omega
        · cases hp
      · cases hp
    · cases h
  · split at h
    · rename_i hc; subst hc
      split at h
      · rename_i x st hst
        split at h
        · rename_i r hr; cases h
          intro g lv sv es ls H locs h0 hG hlv hl hs hH
          rw [hst] at hs
          obtain ⟨w, sv1, rfl, g2, hs1⟩ := zf2_cons hs
          obtain ⟨X, rfl, h3⟩ := i2lA_ok g2 hr
          exact lv_i2l hx hb hd rfl (hL _ (List.mem_singleton.mpr rfl) g lv _ es ls H locs h0 hG hlv hl ⟨h3, hs1⟩ hH)
        · cases h
      · cases h
    · cases h
  · split at h
    · rename_i hc; subst hc
      split at h
      · rename_i x st hst
        split at h
        · rename_i ht; cases h
          intro g lv sv es ls H locs h0 hG hlv hl hs hH
          rw [hst] at hs
          obtain ⟨w, sv1, rfl, g2, hs1⟩ := zf2_cons hs
          obtain ⟨X, rfl⟩ := gam_int g2 ht
          obtain ⟨g', e4, e5, e6⟩ := mk2_ok (V := V) hG X.toInt8.toInt32 (ae_i2b X)
          exact lv_i2b hx hb hd rfl (hL _ (List.mem_singleton.mpr rfl) g' lv _ es ls H locs (gxt_tr h0 e4) e5 hlv (loc_ext e4 hl) ⟨e6, st_ext e4 hs1⟩ (HS_ext e4 hH))
        · cases h
      · cases h
    · cases h
  · split at h
    · rename_i hc; subst hc
      split at h
      · rename_i x st hst
        split at h
        · rename_i ht; cases h
          intro g lv sv es ls H locs h0 hG hlv hl hs hH
          rw [hst] at hs
          obtain ⟨w, sv1, rfl, g2, hs1⟩ := zf2_cons hs
          exact lv_dup hx hb hd (cat_ok g2 ht) (hL _ (List.mem_singleton.mpr rfl) g lv _ es ls H locs h0 hG hlv hl ⟨g2, g2, hs1⟩ hH)
        · cases h
      · cases h
    · cases h
  · split at h
    · rename_i hc; subst hc
      split at h
      · rename_i x y st hst
        split at h
        · rename_i ht; cases h
          intro g lv sv es ls H locs h0 hG hlv hl hs hH
          rw [hst] at hs
          obtain ⟨w, sv1, rfl, g2, hs1⟩ := zf2_cons hs
          obtain ⟨w2, sv2, rfl, g3, hs2⟩ := zf2_cons hs1
          exact lv_dup2_11 hx hb hd (cat_ok g2 ht.1) (cat_ok g3 ht.2) (hL _ (List.mem_singleton.mpr rfl) g lv _ es ls H locs h0 hG hlv hl ⟨g2, g3, g2, g3, hs2⟩ hH)
        · cases h
      · cases h
    · cases h
  · split at h
    · rename_i hc; subst hc
      split at h
      · rename_i x st hst
        split at h
        · rename_i ht; cases h
          intro g lv sv es ls H locs h0 hG hlv hl hs hH
          rw [hst] at hs
          obtain ⟨w, sv1, rfl, g2, hs1⟩ := zf2_cons hs
          exact lv_pop hx hb hd (cat_ok g2 ht) (hL _ (List.mem_singleton.mpr rfl) g lv _ es ls H locs h0 hG hlv hl hs1 hH)
        · cases h
      · cases h
    · cases h
  · split at h
    · rename_i hc; subst hc
      exact if1_ok hx hb hd h hL
    · cases h
  · split at h
    · rename_i hc; subst hc
      exact if2_ok hx hb hd h hL
    · cases h
  · split at h
    · rename_i off hc; obtain ⟨rfl, hp⟩ := hc; cases h
      intro g lv sv es ls H locs h0 hG hlv hl hs hH
      exact lv_goto hx hb hd (by omega : (a.1 : Int) + off = ((((a.1 : Int) + off).toNat : Nat) : Int)) (hL _ (List.mem_singleton.mpr rfl) g lv sv es ls H locs h0 hG hlv hl hs hH)
    · cases h
  · split at h
    · rename_i hc; subst hc
      exact lcb_ok hx hb hT.1 hd h hL
    · cases h
  · split at h
    · rename_i hc; subst hc
      refine lgt_ok h hL (fun x y sv ls H locs hy => ?_)
      obtain ⟨z, rfl⟩ := hy
      exact ⟨_, fun k => lv_land hx hb hd k⟩
    · cases h
  · split at h
    · rename_i hc; subst hc
      refine lgt_ok h hL (fun x y sv ls H locs hy => ?_)
      obtain ⟨z, rfl⟩ := hy
      exact ⟨_, fun k => lv_lor hx hb hd k⟩
    · cases h
  · split at h
    · rename_i hc; subst hc
      refine lgt_ok h hL (fun x y sv ls H locs hy => ?_)
      obtain ⟨z, rfl⟩ := hy
      exact ⟨_, fun k => lv_lshl hx hb hd rfl k⟩
    · cases h
  · cases h
end STA
end
section
/-! ===== a step on the heap ===== -/
def gfd (T : TB) (i : Nat) (a : AS) : Option (List AS) := match a.2.2.1, look T.2.2.2.2 i with
  | x :: st, some (ci, k, _) => if x.1 = 6 then (match a.2.2.2.2[x.2.1.toNat]? with
    | some (fl, .inl (cj, fs)) => if ci = cj then (match fs[k]? with
      | some v => (match nam a.2.2.2.1 v with
        | some r => some [(a.1 + 3, a.2.1, r.2 :: st, r.1, a.2.2.2.2.set x.2.1.toNat (fl, .inl (cj, fs.set k r.2)))]
        | none => none)
      | none => none) else none
    | _ => none) else none
  | _, _ => none
def okT (G : GI) (ty : Nat) (v : AV) : Bool := match ty with
  | 0 => decide (v.1 ≤ 2)
  | 1 => decide (v.1 ≤ 2) && (match ivI G v with
    | some q => decide (0 ≤ q.1 ∧ q.2 ≤ 1)
    | none => false)
  | 2 => decide (3 ≤ v.1 ∧ v.1 ≤ 5)
  | _ => false
def pfd (T : TB) (i : Nat) (a : AS) : Option (List AS) := match a.2.2.1, look T.2.2.2.2 i with
  | v :: x :: st, some (ci, k, ty) => if x.1 = 6 ∧ okT a.2.2.2.1 ty v = true then (match a.2.2.2.2[x.2.1.toNat]? with
    | some (_, .inl (cj, fs)) => if ci = cj ∧ k < fs.length then some [(a.1 + 3, a.2.1, st, a.2.2.2.1, a.2.2.2.2.set x.2.1.toNat (true, .inl (cj, fs.set k v)))] else none
    | _ => none) else none
  | _, _ => none
def ald (t0 t1 : Nat) (a : AS) : Option (List AS) := match a.2.2.1 with
  | i :: x :: st => if x.1 = 6 then (match a.2.2.2.2[x.2.1.toNat]?, ivI a.2.2.2.1 i with
    | some (_, .inr (t, sg)), some q => if (t = t0 ∨ t = t1) ∧ 0 ≤ q.1 ∧ q.2 < (tot sg : Int) then (match rdA a.2.2.2.1 sg q.1.toNat q.2.toNat with
      | some r => some [(a.1 + 1, a.2.1, r.2 :: st, r.1, a.2.2.2.2)]
      | none => none) else none
    | _, _ => none) else none
  | _ => none
/-- what is stored in a row of bytes (0), ints (1), longs (2), booleans (3) -/
def stv (G : GI) (t : Nat) (v : AV) : Option AV := match t with
  | 0 => if v.1 ≤ 2 then some (2, -128, 127) else none
  | 1 => if v.1 ≤ 2 then some v else none
  | 2 => if 3 ≤ v.1 ∧ v.1 ≤ 5 then some v else none
  | 3 => match ivI G v with
    | some q => if 0 ≤ q.1 ∧ q.2 ≤ 1 then some v else none
    | none => none
  | _ => none
def ast (t0 t1 : Nat) (a : AS) : Option (List AS) := match a.2.2.1 with
  | v :: i :: x :: st => if x.1 = 6 then (match a.2.2.2.2[x.2.1.toNat]?, ivI a.2.2.2.1 i with
    | some (_, .inr (t, sg)), some q => if (t = t0 ∨ t = t1) ∧ 0 ≤ q.1 ∧ q.2 < (tot sg : Int) then (match stv a.2.2.2.1 t v with
      | some w => (match wrA a.2.2.2.1 sg q.1.toNat q.2.toNat w with
        | some sg' => some [(a.1 + 1, a.2.1, st, a.2.2.2.1, a.2.2.2.2.set x.2.1.toNat (true, .inr (t, sg')))]
        | none => none)
      | none => none) else none
    | _, _ => none) else none
  | _ => none
def tsw (a : AS) (st : List AV) (x : AV) : List Int → Int → Option (List AS)
  | [], _ => some []
  | off :: r, v => match rfI 0 a.2.2.2.1 x (0, v, 0), tsw a st x r (v + 1) with
    | some L1, some L2 => if 0 ≤ (a.1 : Int) + off ∧ -2147483648 ≤ v ∧ v ≤ 2147483647 then some ((L1.map fun G => (((a.1 : Int) + off).toNat, a.2.1, st, G, a.2.2.2.2)) ++ L2) else none
    | _, _ => none
def tsd (a : AS) (dflt lo hi : Int) (offs : Array Int) : Option (List AS) := match a.2.2.1 with
  | x :: st => if -2147483648 ≤ lo ∧ lo ≤ hi ∧ hi ≤ 2147483647 ∧ hi - lo + 1 = (offs.toList.length : Int) ∧ 0 ≤ (a.1 : Int) + dflt then (match tsw a st x offs.toList lo, rfI 2 a.2.2.2.1 x (0, lo, 0), rfI 4 a.2.2.2.1 x (0, hi, 0) with
    | some L1, some L2, some L3 => some (L1 ++ ((L2 ++ L3).map fun G => (((a.1 : Int) + dflt).toNat, a.2.1, st, G, a.2.2.2.2)))
    | _, _, _ => none) else none
  | _ => none
/-- a reference out of a row of them: one way for each place -/
def alr (a : AS) (st : List AV) (i : AV) (sg : List (Nat × AV)) : Nat → Int → Option (List AS)
  | 0, _ => some []
  | n + 1, j => match rfI 0 a.2.2.2.1 i (0, j, 0), lk sg j.toNat, alr a st i sg n (j + 1) with
    | some L1, some v, some L2 => if v.1 = 6 ∧ 0 ≤ j ∧ j ≤ 2147483647 then some ((L1.map fun G => (a.1 + 1, a.2.1, v :: st, G, a.2.2.2.2)) ++ L2) else none
    | _, _, _ => none
def alR (a : AS) : Option (List AS) := match a.2.2.1 with
  | i :: x :: st => if x.1 = 6 then (match a.2.2.2.2[x.2.1.toNat]?, ivI a.2.2.2.1 i with
    | some (_, .inr (4, sg)), some q => if 0 ≤ q.1 ∧ q.2 < (tot sg : Int) then alr a st i sg (q.2 - q.1 + 1).toNat q.1 else none
    | _, _ => none) else none
  | _ => none
def stpH (T : TB) (ins : ClassFile.Instr) (len : Nat) (a : AS) : Option (List AS) := match ins with
  | .getfield i => if len = 3 then gfd T i a else none
  | .putfield i => if len = 3 then pfd T i a else none
  | .iaload => if len = 1 then ald 1 1 a else none
  | .baload => if len = 1 then ald 0 3 a else none
  | .laload => if len = 1 then ald 2 2 a else none
  | .aaload => if len = 1 then alR a else none
  | .iastore => if len = 1 then ast 1 1 a else none
  | .bastore => if len = 1 then ast 0 3 a else none
  | .lastore => if len = 1 then ast 2 2 a else none
  | .tableswitch dflt lo hi offs => tsd a dflt lo hi offs
  | _ => none
theorem kep_same {hp : HP} {es0 es : List va_E} {r : Nat} {fl : Bool} {c c' : AC} (h : kep hp es0 es) (hr : hp[r]? = some (fl, c)) : kep (hp.set r (fl, c')) es0 es := by
  intro j q hj hq
  by_cases hjr : r = j
  · subst hjr
    have hlt : r < hp.length := (List.getElem?_eq_some_iff.mp hr).1
    rw [List.getElem?_set_self hlt] at hj
    cases hj
    exact h r (fl, c) hr hq
  · rw [List.getElem?_set_ne hjr] at hj
    exact h j q hj hq
theorem kep_set {hp : HP} {es0 es : List va_E} {r : Nat} {c' : AC} {e' : va_E} (h : kep hp es0 es) : kep (hp.set r (true, c')) es0 (es.set r e') := by
  intro j q hj hq
  by_cases hjr : r = j
  · subst hjr
    by_cases hlt : r < hp.length
    · rw [List.getElem?_set_self hlt] at hj
      cases hj
      cases hq
    · rw [List.getElem?_eq_none (by simpa using hlt)] at hj
      cases hj
  · rw [List.getElem?_set_ne hjr] at hj
    rw [List.getElem?_set_ne hjr]
    exact h j q hj hq
/-- a cell that the interpreter knows, in the machine -/
theorem HS_get {D : va_G} {cl : List vw_C} {A : Nat → Prop} {H0 : Heap} {V : EV} {cA : Nat → ClassId} {es0 : List va_E} {hp : HP} {g : List Int} {es : List va_E} {H : Heap} {locs : List Loc} (h : HS D cl A H0 V cA es0 hp g es H locs) {x : AV} {v : Value} (hx : gam g V x v) (ht : x.1 = 6) {q : Bool × AC} (hq : hp[x.2.1.toNat]? = some q) : ∃ (r : Nat) (en : va_E), v = .ref r ∧ V.2[x.2.1.toNat]? = some r ∧ es[x.2.1.toNat]? = some en ∧ relC g V cA q.2 en ∧ (zw V.2 es)[x.2.1.toNat]? = some (r, en) := by
  obtain ⟨r, h1, h2⟩ := gam_ref hx ht
  obtain ⟨en, h3, h4⟩ := zf2_get h.1 hq
  exact ⟨r, en, h2, h1, h3, h4, zw_get h1 h3⟩
theorem HS_put {D : va_G} {cl : List vw_C} {A : Nat → Prop} {H0 : Heap} {V : EV} {cA : Nat → ClassId} {es0 : List va_E} {hp : HP} {g : List Int} {es : List va_E} {H H1 : Heap} {locs locs1 : List Loc} (h : HS D cl A H0 V cA es0 hp g es H locs) {k r : Nat} {c' : AC} {e' : va_E} (hr : V.2[k]? = some r) (hc : relC g V cA c' e') (h1 : va_P D cl ((zw V.2 es).set k (r, e')) H1) (h2 : va_D A ((zw V.2 es).set k (r, e'))) (h3 : va_S A H0 H1 locs1) : HS D cl A H0 V cA es0 (hp.set k (true, c')) g (es.set k e') H1 locs1 := by
  obtain ⟨a1, a2, a3, a4, a5, a6⟩ := h
  rw [zw_set hr] at h1 h2
  exact ⟨zf2_set (R := fun (x : Bool × AC) (y : va_E) => relC g V cA x.2 y) hc a1 k, kep_set a2, h1, h2, h3, by simpa using a6⟩
theorem relC_obj {g : List Int} {V : EV} {cA : Nat → ClassId} {ci : Nat} {fs : List AV} {e : va_E} (h : relC g V cA (.inl (ci, fs)) e) : ∃ vs, e = .inr (ci, vs) ∧ zf2 (gam g V) fs vs := by
  unfold relC at h
  split at h
  · rename_i o q hq
    cases hq
    obtain ⟨q1, q2⟩ := q
    simp only at h
    exact ⟨q2, by rw [h.1], h.2⟩
  · rename_i hq; cases hq
  · rename_i hq; cases hq
  · rename_i hq; cases hq
  · exact h.elim
theorem relC_arI {g : List Int} {V : EV} {cA : Nat → ClassId} {t : Nat} {sg : List (Nat × AV)} {e : va_E} (h : relC g V cA (.inr (t, sg)) e) (ht : t = 0 ∨ t = 1 ∨ t = 3) : ∃ f : Nat → Int32, e = .inl (cA t, tot sg, .inl f) ∧ tot sg < 2 ^ 31 ∧ ∀ (i : Nat) (b : AV), lk sg i = some b → gam g V b (.int (f i)) := by
  unfold relC at h
  split at h
  · rename_i hq; cases hq
  · rename_i t' k n f hq
    cases hq
    simp only at h
    obtain ⟨-, rfl, rfl, h4, h5⟩ := h
    exact ⟨f, rfl, h4, h5⟩
  · rename_i hq; cases hq; simp only at h; omega
  · rename_i hq; cases hq; simp only at h; omega
  · exact h.elim
theorem relC_arL {g : List Int} {V : EV} {cA : Nat → ClassId} {sg : List (Nat × AV)} {e : va_E} (h : relC g V cA (.inr (2, sg)) e) : ∃ f : Nat → Int64, e = .inl (cA 2, tot sg, .inr (.inl f)) ∧ tot sg < 2 ^ 31 ∧ ∀ (i : Nat) (b : AV), lk sg i = some b → gam g V b (.long (f i)) := by
  unfold relC at h
  split at h
  · rename_i hq; cases hq
  · rename_i hq; cases hq; simp only at h; omega
  · rename_i t' k n f hq
    cases hq
    simp only at h
    obtain ⟨-, rfl, rfl, h4, h5⟩ := h
    exact ⟨f, rfl, h4, h5⟩
  · rename_i hq; cases hq; simp only at h; omega
  · exact h.elim
theorem relC_arR {g : List Int} {V : EV} {cA : Nat → ClassId} {sg : List (Nat × AV)} {e : va_E} (h : relC g V cA (.inr (4, sg)) e) : ∃ f : Nat → Option Nat, e = .inl (cA 4, tot sg, .inr (.inr (.inr (.inr f)))) ∧ tot sg < 2 ^ 31 ∧ ∀ (i : Nat) (b : AV), lk sg i = some b → gam g V b (va_rf (f i)) := by
  unfold relC at h
  split at h
  · rename_i hq; cases hq
  · rename_i hq; cases hq; simp only at h; omega
  · rename_i hq; cases hq; simp only at h; omega
  · rename_i t' k n f hq
    cases hq
    simp only at h
    obtain ⟨-, rfl, rfl, h4, h5⟩ := h
    exact ⟨f, rfl, h4, h5⟩
  · exact h.elim
theorem ae_cl (i : Int32) : i.toNatClampNeg = i.toInt.toNat := rfl
end
section
/-! ===== a step on the heap is right ===== -/
section STH
variable {p : Program} {l : Launch} {e : Env} {R : Room} {s : State} {m : MethodId} {args : Array Value} {below : List Frame} {meth : Method} {c : Code} {cs0 ss0 : Nat} {Q : State → Prop} {cc : ByteArray} {own : String} {Ts : List Jvm.Cond} {D : va_G} {cl : List vw_C} {A : Nat → Prop} {H0 : Heap} {V : EV} {cA : Nat → ClassId} {es0 : List va_E} {g0 : List Int}
theorem ae_nb0 : narrow .boolean (.int 0) = .int 0 := rfl
theorem ae_b01 {x : Int32} (h1 : 0 ≤ x.toInt) (h2 : x.toInt ≤ 1) : x = 0 ∨ x = 1 := by
  rcases (show x.toInt = 0 ∨ x.toInt = 1 by omega) with h | h
  · exact Or.inl (Int32.toInt_inj.mp (h.trans ae_z.symm))
  · exact Or.inr (Int32.toInt_inj.mp (h.trans (by decide)))
theorem gfd_ok (hx : p.tables.exec = Jvm.exec) (hb : c.code = cc) (hown : s.vm.findClass own = some m.cls) (hts : ∀ w ∈ Ts, w.before args s = true) (hK : va_K D cl (tysA cA) s) {T : TB} (hT : TOK own cl Ts cc T) {nL : Nat} {a : AS} {i : Nat} {L : List AS} (hd : decode cc a.1 = .ok (.getfield i, 3)) (h : gfd T i a = some L) (hL : ∀ b ∈ L, WA (WW p l e R s m args below meth c cs0 ss0 Q) m nL D cl A H0 V cA es0 g0 b) : WA (WW p l e R s m args below meth c cs0 ss0 Q) m nL D cl A H0 V cA es0 g0 a := by
  intro g lv sv es ls H locs h0 hG hlv hl hs hH
  unfold gfd at h
  split at h
  · rename_i x st ci k ty hst hlk
    split at h
    · rename_i htg
      split at h
      · rename_i fl cj fs hcell
        split at h
        · rename_i hcc
          subst hcc
          split at h
          · rename_i v hv
            split at h
            · rename_i r hr
              cases h
              rw [hst] at hs
              obtain ⟨w, sv1, rfl, g2, hs1⟩ := zf2_cons hs
              obtain ⟨ad, en, rfl, e1, e2, e3, e4⟩ := HS_get hH g2 htg hcell
              obtain ⟨vs, rfl, e5⟩ := relC_obj e3
              obtain ⟨u, e6, e7⟩ := zf2_get e5 hv
              obtain ⟨g', x1, x2, x3⟩ := nam_ok hG e7 hr
              obtain ⟨C, F, N, tyf, f1, f2, f3, f4, f5, f6, f7⟩ := hT.2.2.2 _ (look_mem hlk)
              refine va_get (D := D) hx hb hts f3 hown hK hH.2.2.1 _ e4 f1 k f2 (hts _ f4) (fun _ h9 => h9) e6 hd ?_
              refine hL _ (List.mem_singleton.mpr rfl) g' lv _ es ls H locs (gxt_tr h0 x1) x2 hlv (loc_ext x1 hl) ⟨x3, st_ext x1 hs1⟩ ?_
              have hH' := HS_ext x1 hH
              refine ⟨zf2_setL (R := fun (x : Bool × AC) (y : va_E) => relC g' V cA x.2 y) (b := .inr (ci, vs)) ?_ hH'.1 e2, kep_same hH'.2.1 hcell, hH'.2.2⟩
              exact ⟨rfl, zf2_setL x3 (zf2_mono (fun _ _ => gam_ext x1) e5) e6⟩
            · cases h
          · cases h
        · cases h
      · cases h
    · cases h
  · cases h
theorem okT_ok {G : GI} {g : List Int} {ty : Nat} {v : AV} {w : Value} (hG : GS G g) (hv : gam g V v w) (h : okT G ty v = true) : ty ≤ 2 ∧ narrow (if ty = 0 then .int else if ty = 1 then .boolean else .long) w = w ∧ fits (if ty = 0 then .int else if ty = 1 then .boolean else .long) w = true := by
  unfold okT at h
  split at h
  · have h := of_decide_eq_true h
    obtain ⟨x, rfl⟩ := gam_int hv h
    exact ⟨by omega, rfl, rfl⟩
  · simp only [Bool.and_eq_true, decide_eq_true_eq] at h
    obtain ⟨h1, h2⟩ := h
    split at h2
    · rename_i q hq
      obtain ⟨x, rfl, h3⟩ := ivI_ok hG hv hq
      have h2 := of_decide_eq_true h2
      unfold inI at h3
      rcases ae_b01 (x := x) (by omega) (by omega) with rfl | rfl
      · exact ⟨by omega, rfl, rfl⟩
      · exact ⟨by omega, rfl, rfl⟩
    · cases h2
  · have h := of_decide_eq_true h
    obtain ⟨x, rfl⟩ := gam_long hv h
    exact ⟨by omega, rfl, rfl⟩
  · cases h
theorem pfd_ok (hx : p.tables.exec = Jvm.exec) (hb : c.code = cc) (hown : s.vm.findClass own = some m.cls) (hts : ∀ w ∈ Ts, w.before args s = true) (hK : va_K D cl (tysA cA) s) {T : TB} (hT : TOK own cl Ts cc T) {nL : Nat} {a : AS} {i : Nat} {L : List AS} (hd : decode cc a.1 = .ok (.putfield i, 3)) (h : pfd T i a = some L) (hL : ∀ b ∈ L, WA (WW p l e R s m args below meth c cs0 ss0 Q) m nL D cl A H0 V cA es0 g0 b) : WA (WW p l e R s m args below meth c cs0 ss0 Q) m nL D cl A H0 V cA es0 g0 a := by
  intro g lv sv es ls H locs h0 hG hlv hl hs hH
  unfold pfd at h
  split at h
  · rename_i v x st ci k ty hst hlk
    split at h
    · rename_i htg
      split at h
      · rename_i fl cj fs hcell
        split at h
        · rename_i hcc
          obtain ⟨rfl, hkl⟩ := hcc
          cases h
          rw [hst] at hs
          obtain ⟨w, sv1, rfl, g2, hs1⟩ := zf2_cons hs
          obtain ⟨w2, sv2, rfl, g3, hs2⟩ := zf2_cons hs1
          obtain ⟨ad, en, rfl, e1, e2, e3, e4⟩ := HS_get hH g3 htg.1 hcell
          obtain ⟨vs, rfl, e5⟩ := relC_obj e3
          obtain ⟨C, F, N, tyf, f1, f2, f3, f4, f5, f6, f7⟩ := hT.2.2.2 _ (look_mem hlk)
          obtain ⟨t1, t2, t3⟩ := okT_ok hG g2 htg.2
          obtain ⟨f8, f9⟩ := f7 t1
          simp only at f2 f8 f9
          refine va_put (D := D) hx hb hts f3 tyf f5 f6 hown hK hH.2.2.1 hH.2.2.2.1 hH.2.2.2.2.1 _ e4 f1 k f2 (hts _ f4) (fun _ h9 => h9) f8 (f5 k f2) (by rw [f9]; exact t2) (by rw [f9]; exact t3) (by rw [← zf2_len e5]; exact hkl) hd (fun H1 locs1 p1 d1 s1 => ?_)
          exact hL _ (List.mem_singleton.mpr rfl) g lv _ _ ls H1 locs1 h0 hG hlv hl hs2 (HS_put (c' := .inl (ci, fs.set k v)) (e' := .inr (ci, vs.set k w)) hH e1 ⟨rfl, zf2_set g2 e5 k⟩ p1 d1 s1)
        · cases h
      · cases h
    · cases h
  · cases h
theorem ald_ok {nL t0 t1 : Nat} {a : AS} {L : List AS} (h : ald t0 t1 a = some L) (hL : ∀ b ∈ L, WA (WW p l e R s m args below meth c cs0 ss0 Q) m nL D cl A H0 V cA es0 g0 b)
    (hrow : ∀ (t : Nat) (sg : List (Nat × AV)) (g : List Int) (es : List va_E) (k r : Nat) (en : va_E) (X : Int32) (sv : List Value) (ls : Array Slot) (H : Heap) (locs : List Loc), (t = t0 ∨ t = t1) → va_P D cl (zw V.2 es) H → (zw V.2 es)[k]? = some (r, en) → relC g V cA (.inr (t, sg)) en → vp_in X (tot sg) → ∃ val : Nat → Value, (∀ (i : Nat) (b : AV), lk sg i = some b → gam g V b (val i)) ∧ (WW p l e R s m args below meth c cs0 ss0 Q H locs (F0 m (a.1 + 1) ls (val X.toInt.toNat :: sv)) → WW p l e R s m args below meth c cs0 ss0 Q H locs (F0 m a.1 ls (.int X :: .ref r :: sv)))) : WA (WW p l e R s m args below meth c cs0 ss0 Q) m nL D cl A H0 V cA es0 g0 a := by
  intro g lv sv es ls H locs h0 hG hlv hl hs hH
  unfold ald at h
  split at h
  · rename_i i x st hst
    split at h
    · rename_i htg
      split at h
      · rename_i fl t sg q hcell hq
        split at h
        · rename_i hc
          split at h
          · rename_i r hr
            cases h
            rw [hst] at hs
            obtain ⟨w, sv1, rfl, g2, hs1⟩ := zf2_cons hs
            obtain ⟨w2, sv2, rfl, g3, hs2⟩ := zf2_cons hs1
            obtain ⟨ad, en, rfl, e1, e2, e3, e4⟩ := HS_get hH g3 htg hcell
            obtain ⟨X, rfl, e5⟩ := ivI_ok hG g2 hq
            unfold inI at e5
            obtain ⟨val, v1, v2⟩ := hrow t sg g es _ ad en X sv2 ls H locs hc.1 hH.2.2.1 e4 e3 (vp_in_iff.mpr ⟨by omega, by omega⟩)
            obtain ⟨g', x1, x2, x3⟩ := rdA_ok hG v1 (i := X.toInt.toNat) (by omega) (by omega) (by omega) hr
            exact v2 (hL _ (List.mem_singleton.mpr rfl) g' lv _ es ls H locs (gxt_tr h0 x1) x2 hlv (loc_ext x1 hl) ⟨x3, st_ext x1 hs2⟩ (HS_ext x1 hH))
          · cases h
        · cases h
      · cases h
    · cases h
  · cases h
theorem stv_ok {G : GI} {g : List Int} {t : Nat} {v w : AV} {u : Value} (hG : GS G g) (hv : gam g V v u) (h : stv G t v = some w) : (t = 0 ∧ ∃ x : Int32, u = .int x ∧ gam g V w (.int (vp_nar .byte x))) ∨ (t = 1 ∧ ∃ x : Int32, u = .int x ∧ gam g V w (.int x)) ∨ (t = 2 ∧ ∃ x : Int64, u = .long x ∧ gam g V w (.long x)) ∨ (t = 3 ∧ ∃ x : Int32, u = .int x ∧ gam g V w (.int (vp_nar .boolean x))) := by
  unfold stv at h
  split at h
  · split at h
    · rename_i ht
      cases h
      obtain ⟨x, rfl⟩ := gam_int hv ht
      exact Or.inl ⟨rfl, x, rfl, _, rfl, ae_i2b x⟩
    · cases h
  · split at h
    · rename_i ht
      cases h
      obtain ⟨x, rfl⟩ := gam_int hv ht
      exact Or.inr (Or.inl ⟨rfl, x, rfl, hv⟩)
    · cases h
  · split at h
    · rename_i ht
      cases h
      obtain ⟨x, rfl⟩ := gam_long hv ht
      exact Or.inr (Or.inr (Or.inl ⟨rfl, x, rfl, hv⟩))
    · cases h
  · split at h
    · rename_i q hq
      split at h
      · rename_i ht
        cases h
        obtain ⟨x, rfl, h3⟩ := ivI_ok hG hv hq
        unfold inI at h3
        refine Or.inr (Or.inr (Or.inr ⟨rfl, x, rfl, ?_⟩))
        rcases ae_b01 (x := x) (by omega) (by omega) with rfl | rfl
        · exact hv
        · exact hv
      · cases h
    · cases h
  · cases h
theorem upd_v {f : Nat → Int32} {i : Nat} {x : Int32} : (fun j => Value.int (upd f i x j)) i = .int x := by simp [upd]
theorem ast_ok (hK : va_K D cl (tysA cA) s) {nL t0 t1 : Nat} {a : AS} {L : List AS} (h : ast t0 t1 a = some L) (hL : ∀ b ∈ L, WA (WW p l e R s m args below meth c cs0 ss0 Q) m nL D cl A H0 V cA es0 g0 b)
    (hB : ∀ (f : Nat → Int32) (ws : va_W) (k r n : Nat) (X Y : Int32) (sv : List Value) (ls : Array Slot) (H : Heap) (locs : List Loc), (t0 = 0 ∨ t1 = 0) → va_P D cl ws H → va_D A ws → va_S A H0 H locs → ws[k]? = some (r, .inl (cA 0, n, .inl f)) → vp_in X n → (∀ (H1 : Heap) (locs1 : List Loc), va_P D cl (ws.set k (r, .inl (cA 0, n, .inl (upd f X.toNatClampNeg (vp_nar .byte Y))))) H1 → va_D A (ws.set k (r, .inl (cA 0, n, .inl (upd f X.toNatClampNeg (vp_nar .byte Y))))) → va_S A H0 H1 locs1 → WW p l e R s m args below meth c cs0 ss0 Q H1 locs1 (F0 m (a.1 + 1) ls sv)) → WW p l e R s m args below meth c cs0 ss0 Q H locs (F0 m a.1 ls (.int Y :: .int X :: .ref r :: sv)))
    (hI : ∀ (f : Nat → Int32) (ws : va_W) (k r n : Nat) (X Y : Int32) (sv : List Value) (ls : Array Slot) (H : Heap) (locs : List Loc), (t0 = 1 ∨ t1 = 1) → va_P D cl ws H → va_D A ws → va_S A H0 H locs → ws[k]? = some (r, .inl (cA 1, n, .inl f)) → vp_in X n → (∀ (H1 : Heap) (locs1 : List Loc), va_P D cl (ws.set k (r, .inl (cA 1, n, .inl (upd f X.toNatClampNeg Y)))) H1 → va_D A (ws.set k (r, .inl (cA 1, n, .inl (upd f X.toNatClampNeg Y)))) → va_S A H0 H1 locs1 → WW p l e R s m args below meth c cs0 ss0 Q H1 locs1 (F0 m (a.1 + 1) ls sv)) → WW p l e R s m args below meth c cs0 ss0 Q H locs (F0 m a.1 ls (.int Y :: .int X :: .ref r :: sv)))
    (hJ : ∀ (f : Nat → Int64) (ws : va_W) (k r n : Nat) (X : Int32) (Y : Int64) (sv : List Value) (ls : Array Slot) (H : Heap) (locs : List Loc), (t0 = 2 ∨ t1 = 2) → va_P D cl ws H → va_D A ws → va_S A H0 H locs → ws[k]? = some (r, .inl (cA 2, n, .inr (.inl f))) → vp_in X n → (∀ (H1 : Heap) (locs1 : List Loc), va_P D cl (ws.set k (r, .inl (cA 2, n, .inr (.inl (vp_updL f X.toNatClampNeg Y))))) H1 → va_D A (ws.set k (r, .inl (cA 2, n, .inr (.inl (vp_updL f X.toNatClampNeg Y))))) → va_S A H0 H1 locs1 → WW p l e R s m args below meth c cs0 ss0 Q H1 locs1 (F0 m (a.1 + 1) ls sv)) → WW p l e R s m args below meth c cs0 ss0 Q H locs (F0 m a.1 ls (.long Y :: .int X :: .ref r :: sv)))
    (hZ : ∀ (f : Nat → Int32) (ws : va_W) (k r n : Nat) (X Y : Int32) (sv : List Value) (ls : Array Slot) (H : Heap) (locs : List Loc), (t0 = 3 ∨ t1 = 3) → va_P D cl ws H → va_D A ws → va_S A H0 H locs → ws[k]? = some (r, .inl (cA 3, n, .inl f)) → vp_in X n → (∀ (H1 : Heap) (locs1 : List Loc), va_P D cl (ws.set k (r, .inl (cA 3, n, .inl (upd f X.toNatClampNeg (vp_nar .boolean Y))))) H1 → va_D A (ws.set k (r, .inl (cA 3, n, .inl (upd f X.toNatClampNeg (vp_nar .boolean Y))))) → va_S A H0 H1 locs1 → WW p l e R s m args below meth c cs0 ss0 Q H1 locs1 (F0 m (a.1 + 1) ls sv)) → WW p l e R s m args below meth c cs0 ss0 Q H locs (F0 m a.1 ls (.int Y :: .int X :: .ref r :: sv))) : WA (WW p l e R s m args below meth c cs0 ss0 Q) m nL D cl A H0 V cA es0 g0 a := by
  intro g lv sv es ls H locs h0 hG hlv hl hs hH
  unfold ast at h
  split at h
  · rename_i v i x st hst
    split at h
    · rename_i htg
      split at h
      · rename_i fl t sg q hcell hq
        split at h
        · rename_i hc
          split at h
          · rename_i w hw
            split at h
            · rename_i sg' hsg
              cases h
              rw [hst] at hs
              obtain ⟨w1, sv1, rfl, g1, hs1⟩ := zf2_cons hs
              obtain ⟨w2, sv2, rfl, g2, hs2⟩ := zf2_cons hs1
              obtain ⟨w3, sv3, rfl, g3, hs3⟩ := zf2_cons hs2
              obtain ⟨ad, en, rfl, e1, e2, e3, e4⟩ := HS_get hH g3 htg hcell
              obtain ⟨X, rfl, e5⟩ := ivI_ok hG g2 hq
              unfold inI at e5
              have hin : vp_in X (tot sg) := vp_in_iff.mpr ⟨by omega, by omega⟩
              have hto := wrA_tot hsg
              rcases stv_ok hG g1 hw with ⟨rfl, y, rfl, k1⟩ | ⟨rfl, y, rfl, k1⟩ | ⟨rfl, y, rfl, k1⟩ | ⟨rfl, y, rfl, k1⟩
              · obtain ⟨f, rfl, b1, b2⟩ := relC_arI e3 (Or.inl rfl)
                refine hB f _ _ ad _ X y sv3 ls H locs (by omega) hH.2.2.1 hH.2.2.2.1 hH.2.2.2.2.1 e4 hin (fun H1 locs1 p1 d1 s1 => ?_)
                refine hL _ (List.mem_singleton.mpr rfl) g lv _ _ ls H1 locs1 h0 hG hlv hl hs3 (HS_put hH e1 ?_ p1 d1 s1)
                exact ⟨Or.inl rfl, rfl, hto.symm, b1, wrA_ok (i := X.toNatClampNeg) (val := fun j => .int (f j)) (val' := fun j => .int (upd f X.toNatClampNeg (vp_nar .byte y) j)) hG k1 b2 (by rw [ae_cl]; omega) (by rw [ae_cl]; omega) upd_v (fun j hj => by simp [upd, hj]) hsg⟩
              · obtain ⟨f, rfl, b1, b2⟩ := relC_arI e3 (Or.inr (Or.inl rfl))
                refine hI f _ _ ad _ X y sv3 ls H locs (by omega) hH.2.2.1 hH.2.2.2.1 hH.2.2.2.2.1 e4 hin (fun H1 locs1 p1 d1 s1 => ?_)
                refine hL _ (List.mem_singleton.mpr rfl) g lv _ _ ls H1 locs1 h0 hG hlv hl hs3 (HS_put hH e1 ?_ p1 d1 s1)
                exact ⟨Or.inr (Or.inl rfl), rfl, hto.symm, b1, wrA_ok (i := X.toNatClampNeg) (val := fun j => .int (f j)) (val' := fun j => .int (upd f X.toNatClampNeg y j)) hG k1 b2 (by rw [ae_cl]; omega) (by rw [ae_cl]; omega) upd_v (fun j hj => by simp [upd, hj]) hsg⟩
              · obtain ⟨f, rfl, b1, b2⟩ := relC_arL e3
                refine hJ f _ _ ad _ X y sv3 ls H locs (by omega) hH.2.2.1 hH.2.2.2.1 hH.2.2.2.2.1 e4 hin (fun H1 locs1 p1 d1 s1 => ?_)
                refine hL _ (List.mem_singleton.mpr rfl) g lv _ _ ls H1 locs1 h0 hG hlv hl hs3 (HS_put hH e1 ?_ p1 d1 s1)
                exact ⟨rfl, rfl, hto.symm, b1, wrA_ok (i := X.toNatClampNeg) (val := fun j => .long (f j)) (val' := fun j => .long (vp_updL f X.toNatClampNeg y j)) hG k1 b2 (by rw [ae_cl]; omega) (by rw [ae_cl]; omega) (by simp [vp_updL]) (fun j hj => by simp [vp_updL, hj]) hsg⟩
              · obtain ⟨f, rfl, b1, b2⟩ := relC_arI e3 (Or.inr (Or.inr rfl))
                refine hZ f _ _ ad _ X y sv3 ls H locs (by omega) hH.2.2.1 hH.2.2.2.1 hH.2.2.2.2.1 e4 hin (fun H1 locs1 p1 d1 s1 => ?_)
                refine hL _ (List.mem_singleton.mpr rfl) g lv _ _ ls H1 locs1 h0 hG hlv hl hs3 (HS_put hH e1 ?_ p1 d1 s1)
                exact ⟨Or.inr (Or.inr rfl), rfl, hto.symm, b1, wrA_ok (i := X.toNatClampNeg) (val := fun j => .int (f j)) (val' := fun j => .int (upd f X.toNatClampNeg (vp_nar .boolean y) j)) hG k1 b2 (by rw [ae_cl]; omega) (by rw [ae_cl]; omega) upd_v (fun j hj => by simp [upd, hj]) hsg⟩
            · cases h
          · cases h
        · cases h
      · cases h
    · cases h
  · cases h
theorem tsw_ok {Wf : Heap → List Loc → JFrame → Prop} {nL : Nat} {a : AS} {st : List AV} {x : AV} {g : List Int} {X : Int32} (hG : GS a.2.2.2.1 g) (hx : gam g V x (.int X)) : ∀ {offs : List Int} {v : Int} {L : List AS}, tsw a st x offs v = some L → v ≤ X.toInt → X.toInt < v + offs.length → ∃ off G', offs[(X.toInt - v).toNat]? = some off ∧ 0 ≤ (a.1 : Int) + off ∧ (((a.1 : Int) + off).toNat, a.2.1, st, G', a.2.2.2.2) ∈ L ∧ GS G' g
  | [], v, L, _, h1, h2 => by simp at h2; omega
  | off :: r, v, L, h, h1, h2 => by
    unfold tsw at h
    split at h
    · rename_i L1 L2 q1 q2
      split at h
      · rename_i hc
        cases h
        by_cases hv : X.toInt = v
        · obtain ⟨X', Y, e1, e2, e3⟩ := rfI_ok hG hx (w := .int (Int32.ofInt v)) (show gam g V (0, v, 0) (.int (Int32.ofInt v)) from ⟨_, rfl, ae_ofInt hc.2.1 hc.2.2⟩) q1
          cases e1; cases e2
          obtain ⟨G', m1, m2⟩ := e3 (by rw [ae_ofInt hc.2.1 hc.2.2]; exact hv)
          exact ⟨off, G', by rw [hv]; simp, hc.1, List.mem_append_left _ (List.mem_map.mpr ⟨G', m1, rfl⟩), m2⟩
        · obtain ⟨off', G', e1, e2, e3, e4⟩ := tsw_ok (Wf := Wf) (nL := nL) hG hx q2 (by omega) (by simp at h2; omega)
          refine ⟨off', G', ?_, e2, List.mem_append_right _ e3, e4⟩
          rw [show (X.toInt - v).toNat = (X.toInt - (v + 1)).toNat + 1 by omega]
          simpa using e1
      · cases h
    · cases h
theorem tsd_ok (hx : p.tables.exec = Jvm.exec) (hb : c.code = cc) {nL : Nat} {a : AS} {dflt lo hi : Int} {offs : Array Int} {len : Nat} {L : List AS} (hd : decode cc a.1 = .ok (.tableswitch dflt lo hi offs, len)) (h : tsd a dflt lo hi offs = some L) (hL : ∀ b ∈ L, WA (WW p l e R s m args below meth c cs0 ss0 Q) m nL D cl A H0 V cA es0 g0 b) : WA (WW p l e R s m args below meth c cs0 ss0 Q) m nL D cl A H0 V cA es0 g0 a := by
  intro g lv sv es ls H locs h0 hG hlv hl hs hH
  unfold tsd at h
  split at h
  · rename_i x st hst
    split at h
    · rename_i hc
      split at h
      · rename_i L1 L2 L3 q1 q2 q3
        cases h
        rw [hst] at hs
        obtain ⟨w, sv1, rfl, g2, hs1⟩ := zf2_cons hs
        obtain ⟨X, Y, e1, e2, e3⟩ := rfI_ok hG g2 (w := .int (Int32.ofInt lo)) (show gam g V (0, lo, 0) (.int (Int32.ofInt lo)) from ⟨_, rfl, ae_ofInt (by omega) (by omega)⟩) q2
        obtain ⟨X', Z, e4, e5, e6⟩ := rfI_ok hG g2 (w := .int (Int32.ofInt hi)) (show gam g V (0, hi, 0) (.int (Int32.ofInt hi)) from ⟨_, rfl, ae_ofInt (by omega) (by omega)⟩) q3
        subst e1
        cases e4; cases e2; cases e5
        rw [ae_ofInt (by omega) (by omega)] at e3
        rw [ae_ofInt (by omega) (by omega)] at e6
        by_cases hlo : X.toInt < lo
        · obtain ⟨G', m1, m2⟩ := e3 hlo
          exact lv_tableOut hx hb hd (Or.inl hlo) (by omega : (a.1 : Int) + dflt = ((((a.1 : Int) + dflt).toNat : Nat) : Int)) (hL _ (List.mem_append_right _ (List.mem_map.mpr ⟨G', List.mem_append_left _ m1, rfl⟩)) g lv sv1 es ls H locs h0 m2 hlv hl hs1 hH)
        · by_cases hhi : hi < X.toInt
          · obtain ⟨G', m1, m2⟩ := e6 hhi
            exact lv_tableOut hx hb hd (Or.inr hhi) (by omega : (a.1 : Int) + dflt = ((((a.1 : Int) + dflt).toNat : Nat) : Int)) (hL _ (List.mem_append_right _ (List.mem_map.mpr ⟨G', List.mem_append_right _ m1, rfl⟩)) g lv sv1 es ls H locs h0 m2 hlv hl hs1 hH)
          · obtain ⟨off, G', t1, t2, t3, t4⟩ := tsw_ok (Wf := WW p l e R s m args below meth c cs0 ss0 Q) (nL := nL) hG g2 q1 (by omega) (by omega)
            exact lv_tableIn hx hb hd hlo hhi (by rw [← Array.getElem?_toList]; exact t1) (by omega : (a.1 : Int) + off = ((((a.1 : Int) + off).toNat : Nat) : Int)) (hL _ (List.mem_append_left _ t3) g lv sv1 es ls H locs h0 t4 hlv hl hs1 hH)
      · cases h
    · cases h
  · cases h
theorem alr_ok {a : AS} {st : List AV} {i : AV} {sg : List (Nat × AV)} {g : List Int} {X : Int32} (hG : GS a.2.2.2.1 g) (hi : gam g V i (.int X)) : ∀ {n : Nat} {j : Int} {L : List AS}, alr a st i sg n j = some L → j ≤ X.toInt → X.toInt < j + n → ∃ v G', lk sg X.toInt.toNat = some v ∧ v.1 = 6 ∧ (a.1 + 1, a.2.1, v :: st, G', a.2.2.2.2) ∈ L ∧ GS G' g
  | 0, j, L, _, h1, h2 => by simp at h2; omega
  | n + 1, j, L, h, h1, h2 => by
    unfold alr at h
    split at h
    · rename_i L1 v L2 q1 q2 q3
      split at h
      · rename_i hc
        cases h
        by_cases hv : X.toInt = j
        · obtain ⟨X', Y, e1, e2, e3⟩ := rfI_ok hG hi (w := .int (Int32.ofInt j)) (show gam g V (0, j, 0) (.int (Int32.ofInt j)) from ⟨_, rfl, ae_ofInt (by omega) hc.2.2⟩) q1
          cases e1; cases e2
          obtain ⟨G', m1, m2⟩ := e3 (by rw [ae_ofInt (by omega) hc.2.2]; exact hv)
          exact ⟨v, G', by rw [hv]; exact q2, hc.1, List.mem_append_left _ (List.mem_map.mpr ⟨G', m1, rfl⟩), m2⟩
        · obtain ⟨v', G', e1, e2, e3, e4⟩ := alr_ok hG hi q3 (by omega) (by push_cast at h2; omega)
          exact ⟨v', G', e1, e2, List.mem_append_right _ e3, e4⟩
      · cases h
    · cases h
theorem alR_ok (hx : p.tables.exec = Jvm.exec) (hb : c.code = cc) (hK : va_K D cl (tysA cA) s) {nL : Nat} {a : AS} {L : List AS} (hd : decode cc a.1 = .ok (.aaload, 1)) (h : alR a = some L) (hL : ∀ b ∈ L, WA (WW p l e R s m args below meth c cs0 ss0 Q) m nL D cl A H0 V cA es0 g0 b) : WA (WW p l e R s m args below meth c cs0 ss0 Q) m nL D cl A H0 V cA es0 g0 a := by
  intro g lv sv es ls H locs h0 hG hlv hl hs hH
  unfold alR at h
  split at h
  · rename_i i x st hst
    split at h
    · rename_i htg
      split at h
      · rename_i fl sg q hcell hq
        split at h
        · rename_i hc
          rw [hst] at hs
          obtain ⟨w, sv1, rfl, g2, hs1⟩ := zf2_cons hs
          obtain ⟨w2, sv2, rfl, g3, hs2⟩ := zf2_cons hs1
          obtain ⟨ad, en, rfl, e1, e2, e3, e4⟩ := HS_get hH g3 htg hcell
          obtain ⟨X, rfl, e5⟩ := ivI_ok hG g2 hq
          unfold inI at e5
          obtain ⟨f, rfl, b1, b2⟩ := relC_arR e3
          obtain ⟨v, G', r1, r2, r3, r4⟩ := alr_ok hG g2 h (by omega) (by omega)
          refine va_aldq hx hb hK hH.2.2.1 _ 4 e4 rfl (vp_in_iff.mpr ⟨by omega, by omega⟩) hd ?_
          exact hL _ r3 g lv _ es ls H locs h0 r4 hlv hl ⟨b2 _ v r1, hs2⟩ hH
        · cases h
      · cases h
    · cases h
  · cases h
theorem stpH_ok (hx : p.tables.exec = Jvm.exec) (hb : c.code = cc) (hown : s.vm.findClass own = some m.cls) (hts : ∀ w ∈ Ts, w.before args s = true) (hK : va_K D cl (tysA cA) s) {T : TB} (hT : TOK own cl Ts cc T) {nL : Nat} {a : AS} {ins : ClassFile.Instr} {len : Nat} {L : List AS} (hd : decode cc a.1 = .ok (ins, len)) (h : stpH T ins len a = some L) (hL : ∀ b ∈ L, WA (WW p l e R s m args below meth c cs0 ss0 Q) m nL D cl A H0 V cA es0 g0 b) : WA (WW p l e R s m args below meth c cs0 ss0 Q) m nL D cl A H0 V cA es0 g0 a := by
  unfold stpH at h
  split at h
  · split at h
    · rename_i i hc; subst hc
      exact gfd_ok hx hb hown hts hK hT hd h hL
    · cases h
  · split at h
    · rename_i i hc; subst hc
      exact pfd_ok hx hb hown hts hK hT hd h hL
    · cases h
  · split at h
    · rename_i hc; subst hc
      refine ald_ok h hL (fun t sg g es k r en X sv ls H locs ht hP he hr hin => ?_)
      have : t = 1 := by omega
      subst this
      obtain ⟨f, rfl, b1, b2⟩ := relC_arI hr (Or.inr (Or.inl rfl))
      exact ⟨fun j => .int (f j), b2, fun k9 => va_iald hx hb hK hP k 1 he rfl hin hd k9⟩
    · cases h
  · split at h
    · rename_i hc; subst hc
      refine ald_ok h hL (fun t sg g es k r en X sv ls H locs ht hP he hr hin => ?_)
      rcases ht with rfl | rfl
      · obtain ⟨f, rfl, b1, b2⟩ := relC_arI hr (Or.inl rfl)
        exact ⟨fun j => .int (f j), b2, fun k9 => va_bald hx hb hK hP k 0 he rfl hin hd k9⟩
      · obtain ⟨f, rfl, b1, b2⟩ := relC_arI hr (Or.inr (Or.inr rfl))
        exact ⟨fun j => .int (f j), b2, fun k9 => va_zald hx hb hK hP k 3 he rfl hin hd k9⟩
    · cases h
  · split at h
    · rename_i hc; subst hc
      refine ald_ok h hL (fun t sg g es k r en X sv ls H locs ht hP he hr hin => ?_)
      have : t = 2 := by omega
      subst this
      obtain ⟨f, rfl, b1, b2⟩ := relC_arL hr
      exact ⟨fun j => .long (f j), b2, fun k9 => va_lald hx hb hK hP k 2 he rfl hin hd k9⟩
    · cases h
  · split at h
    · rename_i hc; subst hc
      exact alR_ok hx hb hK hd h hL
    · cases h
  · split at h
    · rename_i hc; subst hc
      exact ast_ok hK h hL (fun f ws k r n X Y sv ls H locs ht _ _ _ _ _ _ => by omega) (fun f ws k r n X Y sv ls H locs ht hP hD hS he hin kk => va_iast hx hb hK hP hD hS k 1 he rfl hin hd kk) (fun f ws k r n X Y sv ls H locs ht _ _ _ _ _ _ => by omega) (fun f ws k r n X Y sv ls H locs ht _ _ _ _ _ _ => by omega)
    · cases h
  · split at h
    · rename_i hc; subst hc
      exact ast_ok hK h hL (fun f ws k r n X Y sv ls H locs ht hP hD hS he hin kk => va_bast hx hb hK hP hD hS k 0 he rfl hin hd kk) (fun f ws k r n X Y sv ls H locs ht _ _ _ _ _ _ => by omega) (fun f ws k r n X Y sv ls H locs ht _ _ _ _ _ _ => by omega) (fun f ws k r n X Y sv ls H locs ht hP hD hS he hin kk => va_zast hx hb hK hP hD hS k 3 he rfl hin hd kk)
    · cases h
  · split at h
    · rename_i hc; subst hc
      exact ast_ok hK h hL (fun f ws k r n X Y sv ls H locs ht _ _ _ _ _ _ => by omega) (fun f ws k r n X Y sv ls H locs ht _ _ _ _ _ _ => by omega) (fun f ws k r n X Y sv ls H locs ht hP hD hS he hin kk => va_last hx hb hK hP hD hS k 2 he rfl hin hd kk) (fun f ws k r n X Y sv ls H locs ht _ _ _ _ _ _ => by omega)
    · cases h
  · exact tsd_ok hx hb hd h hL
  · cases h
end STH
end
section
/-! ===== a call: the callee's cells among the caller's ===== -/
def gvl (c : AV) (v : Value) : Int := if c.1 = 1 ∨ c.1 = 4 then (numV v).getD 0 else 0
def zin (Gc : GI) (p : Nat) : Bool := match Gc[p]? with
  | some r => decide (r.1 ≤ 0 ∧ 0 ≤ r.2)
  | none => false
/-- the caller's value x where the callee's start has c, the p-th -/
def mt1 (σ : List Nat) (G Gc : GI) (p : Nat) (c x : AV) : Bool := match c.1 with
  | 0 => (match ivI G x with
    | some q => decide (q.1 = c.2.1 ∧ q.2 = c.2.1)
    | none => false) && zin Gc p
  | 1 => decide (c.2.1 = (p : Int) ∧ c.2.2 = 0) && (match ivI G x, Gc[p]? with
    | some q, some r => decide (r.1 ≤ q.1 ∧ q.2 ≤ r.2)
    | _, _ => false)
  | 2 => (match ivI G x with
    | some q => decide (c.2.1 ≤ q.1 ∧ q.2 ≤ c.2.2)
    | none => false) && zin Gc p
  | 3 => (match ivL G x with
    | some q => decide (q.1 = c.2.1 ∧ q.2 = c.2.1)
    | none => false) && zin Gc p
  | 4 => decide (c.2.1 = (p : Int) ∧ c.2.2 = 0) && (match ivL G x, Gc[p]? with
    | some q, some r => decide (r.1 ≤ q.1 ∧ q.2 ≤ r.2)
    | _, _ => false)
  | 5 => (match ivL G x with
    | some q => decide (c.2.1 ≤ q.1 ∧ q.2 ≤ c.2.2)
    | none => false) && zin Gc p
  | 6 => decide (x.1 = 6 ∧ σ[c.2.1.toNat]? = some x.2.1.toNat) && zin Gc p
  | 7 => decide (x.1 = 7) && zin Gc p
  | 8 => decide (c.2.1 = (p : Int)) && zin Gc p
  | _ => false
theorem zin_ok {Gc : GI} {p : Nat} (h : zin Gc p = true) : ∃ r, Gc[p]? = some r ∧ inI r 0 := by
  unfold zin at h
  split at h
  · rename_i r hr
    have h := of_decide_eq_true h
    exact ⟨r, hr, h.1, h.2⟩
  · cases h
theorem mt1_ok {σ : List Nat} {G Gc : GI} {g ga : List Int} {V : EV} {va : List Value} {ac : List Nat} {p : Nat} {c x : AV} {v : Value} (hG : GS G g) (hx : gam g V x v) (h : mt1 σ G Gc p c x = true) (hv : va[p]? = some v) (hg : ga[p]? = some (gvl c v)) (hac : ∀ (r i : Nat), σ[r]? = some i → ac[r]? = V.2[i]?) : gam ga (va, ac) c v ∧ ∃ r, Gc[p]? = some r ∧ inI r (gvl c v) := by
  obtain ⟨t, c1, c2⟩ := c
  unfold mt1 at h
  split at h
  · rename_i ht; simp only at ht; subst ht
    simp only [Bool.and_eq_true] at h
    obtain ⟨h1, h2⟩ := h
    split at h1
    · rename_i q hq
      have h1 := of_decide_eq_true h1
      obtain ⟨y, e1, e2⟩ := ivI_ok hG hx hq
      unfold inI at e2
      exact ⟨⟨y, e1, by simp only; omega⟩, zin_ok h2⟩
    · cases h1
  · rename_i ht; simp only at ht; subst ht
    simp only [Bool.and_eq_true, decide_eq_true_eq] at h
    obtain ⟨⟨h1, h3⟩, h2⟩ := h
    split at h2
    · rename_i q r hq hr
      have h2 := of_decide_eq_true h2
      obtain ⟨y, e1, e2⟩ := ivI_ok hG hx hq
      unfold inI at e2
      subst e1
      have hgv : gvl (1, c1, c2) (.int y) = y.toInt := rfl
      rw [hgv] at hg ⊢
      refine ⟨⟨y, rfl, y.toInt, ?_, ?_⟩, r, hr, by unfold inI; omega⟩
      · simp only [h1, Int.toNat_natCast]; exact hg
      · simp only [h3]; omega
    · cases h2
  · rename_i ht; simp only at ht; subst ht
    simp only [Bool.and_eq_true] at h
    obtain ⟨h1, h2⟩ := h
    split at h1
    · rename_i q hq
      have h1 := of_decide_eq_true h1
      obtain ⟨y, e1, e2⟩ := ivI_ok hG hx hq
      unfold inI at e2
      exact ⟨⟨y, e1, by simp only; omega, by simp only; omega⟩, zin_ok h2⟩
    · cases h1
  · rename_i ht; simp only at ht; subst ht
    simp only [Bool.and_eq_true] at h
    obtain ⟨h1, h2⟩ := h
    split at h1
    · rename_i q hq
      have h1 := of_decide_eq_true h1
      obtain ⟨y, e1, e2⟩ := ivL_ok hG hx hq
      unfold inI at e2
      exact ⟨⟨y, e1, by simp only; omega⟩, zin_ok h2⟩
    · cases h1
  · rename_i ht; simp only at ht; subst ht
    simp only [Bool.and_eq_true, decide_eq_true_eq] at h
    obtain ⟨⟨h1, h3⟩, h2⟩ := h
    split at h2
    · rename_i q r hq hr
      have h2 := of_decide_eq_true h2
      obtain ⟨y, e1, e2⟩ := ivL_ok hG hx hq
      unfold inI at e2
      subst e1
      have hgv : gvl (4, c1, c2) (.long y) = y.toInt := rfl
      rw [hgv] at hg ⊢
      refine ⟨⟨y, rfl, y.toInt, ?_, ?_⟩, r, hr, by unfold inI; omega⟩
      · simp only [h1, Int.toNat_natCast]; exact hg
      · simp only [h3]; omega
    · cases h2
  · rename_i ht; simp only at ht; subst ht
    simp only [Bool.and_eq_true] at h
    obtain ⟨h1, h2⟩ := h
    split at h1
    · rename_i q hq
      have h1 := of_decide_eq_true h1
      obtain ⟨y, e1, e2⟩ := ivL_ok hG hx hq
      unfold inI at e2
      exact ⟨⟨y, e1, by simp only; omega, by simp only; omega⟩, zin_ok h2⟩
    · cases h1
  · rename_i ht; simp only at ht; subst ht
    simp only [Bool.and_eq_true, decide_eq_true_eq] at h
    obtain ⟨⟨h1, h3⟩, h2⟩ := h
    obtain ⟨r, e1, e2⟩ := gam_ref hx h1
    exact ⟨⟨r, by simp only; rw [hac _ _ h3]; exact e1, e2⟩, zin_ok h2⟩
  · rename_i ht; simp only at ht; subst ht
    simp only [Bool.and_eq_true, decide_eq_true_eq] at h
    obtain ⟨h1, h2⟩ := h
    obtain ⟨tx, x1, x2⟩ := x
    simp only at h1
    subst h1
    exact ⟨hx, zin_ok h2⟩
  · rename_i ht; simp only at ht; subst ht
    simp only [Bool.and_eq_true, decide_eq_true_eq] at h
    obtain ⟨h1, h2⟩ := h
    refine ⟨?_, zin_ok h2⟩
    show va[c1.toNat]? = some v
    rw [h1, Int.toNat_natCast]; exact hv
  · cases h
def mtc (σ : List Nat) (G Gc : GI) : Nat → List AV → List AV → Bool
  | _, [], [] => true
  | p, c :: cs, x :: xs => mt1 σ G Gc p c x && mtc σ G Gc (p + 1) cs xs
  | _, _, _ => false
/-- what the callee's numbers are -/
def gcf : List AV → List Value → List Int
  | c :: cs, v :: vs => gvl c v :: gcf cs vs
  | _, _ => []
theorem gcf_len : ∀ {cs : List AV} {vs : List Value}, cs.length = vs.length → (gcf cs vs).length = vs.length
  | [], [], _ => rfl
  | [], _ :: _, h => by simp at h
  | _ :: _, [], h => by simp at h
  | _ :: cs, _ :: vs, h => by simp only [gcf, List.length_cons]; rw [gcf_len (cs := cs) (vs := vs) (by simpa using h)]
theorem gcf_app : ∀ {c1 c2 : List AV} {v1 v2 : List Value}, c1.length = v1.length → gcf (c1 ++ c2) (v1 ++ v2) = gcf c1 v1 ++ gcf c2 v2
  | [], _, [], _, _ => rfl
  | [], _, _ :: _, _, h => by simp at h
  | _ :: _, _, [], _, h => by simp at h
  | _ :: c1, c2, _ :: v1, v2, h => by simp only [List.cons_append, gcf]; rw [gcf_app (c1 := c1) (v1 := v1) (by simpa using h)]
theorem mtc_len {σ : List Nat} {G Gc : GI} : ∀ {p : Nat} {cs xs : List AV}, mtc σ G Gc p cs xs = true → cs.length = xs.length
  | _, [], [], _ => rfl
  | _, [], _ :: _, h => by simp [mtc] at h
  | _, _ :: _, [], h => by simp [mtc] at h
  | p, _ :: cs, _ :: xs, h => by
    simp only [mtc, Bool.and_eq_true] at h
    simp only [List.length_cons]; rw [mtc_len h.2]
theorem mtc_ok {σ : List Nat} {G Gc : GI} {g : List Int} {V : EV} {ac : List Nat} (hG : GS G g) (hac : ∀ (r i : Nat), σ[r]? = some i → ac[r]? = V.2[i]?) {va : List Value} {ga : List Int} : ∀ {cs xs : List AV} {vs pre post : List Value} {pg qg : List Int}, zf2 (gam g V) xs vs → mtc σ G Gc pre.length cs xs = true → va = pre ++ vs ++ post → ga = pg ++ gcf cs vs ++ qg → pg.length = pre.length → zf2 (gam ga (va, ac)) cs vs ∧ ∀ (i : Nat) (z : Int), (gcf cs vs)[i]? = some z → ∃ r, Gc[pre.length + i]? = some r ∧ inI r z
  | [], [], [], _, _, _, _, _, _, _, _, _ => ⟨trivial, fun i z h => by simp [gcf] at h⟩
  | [], _ :: _, _, _, _, _, _, _, h, _, _, _ => by simp [mtc] at h
  | _ :: _, [], _, _, _, _, _, _, h, _, _, _ => by simp [mtc] at h
  | _ :: _, _ :: _, [], _, _, _, _, hz, _, _, _, _ => hz.elim
  | c :: cs, x :: xs, v :: vs, pre, post, pg, qg, hz, h, hva, hga, hpl => by
    simp only [mtc, Bool.and_eq_true] at h
    obtain ⟨h1, h2⟩ := h
    have k1 := mt1_ok (va := va) (ga := ga) hG hz.1 h1 (by rw [hva]; simp) (by rw [hga, ← hpl]; simp [gcf]) hac
    have k2 := mtc_ok hG hac (va := va) (ga := ga) (pre := pre ++ [v]) (post := post) (pg := pg ++ [gvl c v]) (qg := qg) (vs := vs) hz.2 (by simpa using h2) (by rw [hva]; simp) (by rw [hga]; simp [gcf]) (by simp [hpl])
    refine ⟨⟨k1.1, k2.1⟩, fun i z hi => ?_⟩
    cases i with
    | zero => simp [gcf] at hi; subst hi; simpa using k1.2
    | succ i =>
      have := k2.2 i z (by simpa [gcf] using hi)
      simp only [List.length_append, List.length_cons, List.length_nil] at this
      rw [show pre.length + (i + 1) = pre.length + (0 + 1) + i by omega]
      exact this
def fldA : AC → List AV
  | .inl o => o.2
  | .inr _ => []
def fldE : va_E → List Value
  | .inr o => o.2
  | .inl _ => []
def numS (sg : List (Nat × AV)) : Bool := sg.all (fun q => decide (q.2.1 = 0 ∨ q.2.1 = 2 ∨ q.2.1 = 3 ∨ q.2.1 = 5))
theorem gam_num {g g' : List Int} {V V' : EV} {b : AV} {v : Value} (ht : b.1 = 0 ∨ b.1 = 2 ∨ b.1 = 3 ∨ b.1 = 5) (h : gam g V b v) : gam g' V' b v := by
  obtain ⟨t, x, y⟩ := b
  simp only at ht
  rcases ht with rfl | rfl | rfl | rfl <;> exact h
theorem numS_lk : ∀ {sg : List (Nat × AV)} {i : Nat} {b : AV}, numS sg = true → lk sg i = some b → b.1 = 0 ∨ b.1 = 2 ∨ b.1 = 3 ∨ b.1 = 5
  | [], _, _, _, h => by cases h
  | (n, a) :: r, i, b, hn, h => by
    simp only [numS, List.all_cons, Bool.and_eq_true, decide_eq_true_eq] at hn
    unfold lk at h
    split at h
    · cases h; exact hn.1
    · exact numS_lk (sg := r) (by unfold numS; exact hn.2) h
theorem relC_num {g g' : List Int} {V V' : EV} {cA : Nat → ClassId} {t : Nat × List (Nat × AV)} {e : va_E} (hn : numS t.2 = true) (h : relC g V cA (.inr t) e) : relC g' V' cA (.inr t) e := by
  unfold relC at h ⊢
  split at h
  · rename_i hq; cases hq
  · rename_i hq; cases hq
    exact ⟨h.1, h.2.1, h.2.2.1, h.2.2.2.1, fun i b hb => gam_num (numS_lk hn hb) (h.2.2.2.2 i b hb)⟩
  · rename_i hq; cases hq
    exact ⟨h.1, h.2.1, h.2.2.1, h.2.2.2.1, fun i b hb => gam_num (numS_lk hn hb) (h.2.2.2.2 i b hb)⟩
  · rename_i hq; cases hq
    exact ⟨h.1, h.2.1, h.2.2.1, h.2.2.2.1, fun i b hb => gam_num (numS_lk hn hb) (h.2.2.2.2 i b hb)⟩
  · exact h.elim
/-- rows of references, place by place -/
def mtR (σ : List Nat) : List (Nat × AV) → List (Nat × AV) → Bool
  | [], [] => true
  | (n, c) :: cs, (k, x) :: xs => decide (n = k ∧ c.1 = 6 ∧ x.1 = 6 ∧ σ[c.2.1.toNat]? = some x.2.1.toNat) && mtR σ cs xs
  | _, _ => false
theorem mtR_ok {σ : List Nat} : ∀ {cs xs : List (Nat × AV)}, mtR σ cs xs = true → tot xs = tot cs ∧ ∀ (i : Nat) (b : AV), lk cs i = some b → ∃ b', lk xs i = some b' ∧ b.1 = 6 ∧ b'.1 = 6 ∧ σ[b.2.1.toNat]? = some b'.2.1.toNat
  | [], [], _ => ⟨rfl, fun i b h => by cases h⟩
  | [], _ :: _, h => by simp [mtR] at h
  | _ :: _, [], h => by simp [mtR] at h
  | (n, c) :: cs, (k, x) :: xs, h => by
    simp only [mtR, Bool.and_eq_true, decide_eq_true_eq] at h
    obtain ⟨⟨rfl, h1, h2, h3⟩, h4⟩ := h
    have ih := mtR_ok h4
    refine ⟨by simp only [tot]; omega, fun i b hb => ?_⟩
    unfold lk at hb ⊢
    split at hb
    · cases hb
      rename_i hi
      exact ⟨x, by rw [if_pos hi], h1, h2, h3⟩
    · rename_i hi
      rw [if_neg hi]
      exact ih.2 _ b hb
def mtC (σ : List Nat) (G Gc : GI) : Nat → List AC → List AC → Bool
  | _, [], [] => true
  | p, .inl c :: cs, .inl x :: xs => decide (c.1 = x.1) && (mtc σ G Gc p c.2 x.2 && mtC σ G Gc (p + c.2.length) cs xs)
  | p, .inr c :: cs, .inr x :: xs => decide (c.1 = x.1) && (((numS c.2 && subS 0 G (x.2.length + c.2.length + 1) x.2 c.2) || (decide (c.1 = 4) && mtR σ c.2 x.2)) && mtC σ G Gc p cs xs)
  | _, _, _ => false
theorem relC_arr {g : List Int} {V : EV} {cA : Nat → ClassId} {t : Nat × List (Nat × AV)} {e : va_E} (h : relC g V cA (.inr t) e) : fldE e = [] := by
  unfold relC at h
  split at h
  · rename_i hq; cases hq
  · rfl
  · rfl
  · rfl
  · exact h.elim
theorem mtC_ok {σ : List Nat} {G Gc : GI} {g : List Int} {V : EV} {ac : List Nat} {cA : Nat → ClassId} (hG : GS G g) (hac : ∀ (r i : Nat), σ[r]? = some i → ac[r]? = V.2[i]?) {va : List Value} {ga : List Int} : ∀ {cs xs : List AC} {es : List va_E} {pre : List Value} {pg : List Int}, zf2 (relC g V cA) xs es → mtC σ G Gc pre.length cs xs = true → va = pre ++ es.flatMap fldE → ga = pg ++ gcf (cs.flatMap fldA) (es.flatMap fldE) → pg.length = pre.length → zf2 (relC ga (va, ac) cA) cs es ∧ (cs.flatMap fldA).length = (es.flatMap fldE).length ∧ ∀ (i : Nat) (z : Int), (gcf (cs.flatMap fldA) (es.flatMap fldE))[i]? = some z → ∃ r, Gc[pre.length + i]? = some r ∧ inI r z
  | [], [], [], _, _, _, _, _, _, _ => ⟨trivial, rfl, fun i z h => by simp [gcf] at h⟩
  | [], _ :: _, _, _, _, _, h, _, _, _ => by simp [mtC] at h
  | _ :: _, [], _, _, _, _, h, _, _, _ => by simp [mtC] at h
  | _ :: _, _ :: _, [], _, _, hz, _, _, _, _ => hz.elim
  | .inl _ :: _, .inr _ :: _, _, _, _, _, h, _, _, _ => by simp [mtC] at h
  | .inr _ :: _, .inl _ :: _, _, _, _, _, h, _, _, _ => by simp [mtC] at h
  | .inl c :: cs, .inl x :: xs, e :: es, pre, pg, hz, h, hva, hga, hpl => by
    simp only [mtC, Bool.and_eq_true, decide_eq_true_eq] at h
    obtain ⟨h1, h2, h3⟩ := h
    obtain ⟨x1, x2⟩ := x
    obtain ⟨vs, rfl, e5⟩ := relC_obj hz.1
    simp only at h1 h2
    have hlen : c.2.length = vs.length := (mtc_len h2).trans (zf2_len e5)
    have hga' : ga = pg ++ gcf c.2 vs ++ gcf (cs.flatMap fldA) (es.flatMap fldE) := by
      rw [hga]; simp only [List.flatMap_cons, fldA, fldE]; rw [gcf_app hlen, List.append_assoc]
    have k1 := mtc_ok hG hac (va := va) (ga := ga) (pre := pre) (post := es.flatMap fldE) (pg := pg) (qg := gcf (cs.flatMap fldA) (es.flatMap fldE)) e5 h2 (by rw [hva]; simp [fldE]) hga' hpl
    have k2 := mtC_ok hG hac (va := va) (ga := ga) (cs := cs) (xs := xs) (es := es) (pre := pre ++ vs) (pg := pg ++ gcf c.2 vs) hz.2 (by rw [List.length_append, ← hlen]; exact h3) (by rw [hva]; simp [fldE]) hga' (by rw [List.length_append, List.length_append, hpl, gcf_len hlen])
    refine ⟨⟨⟨h1, k1.1⟩, k2.1⟩, ?_, fun i z hi => ?_⟩
    · simp only [List.flatMap_cons, fldA, fldE, List.length_append]; rw [hlen, k2.2.1]
    · simp only [List.flatMap_cons, fldA, fldE] at hi
      rw [gcf_app hlen] at hi
      by_cases hlt : i < vs.length
      · rw [List.getElem?_append_left (by rw [gcf_len hlen]; exact hlt)] at hi
        exact k1.2 i z hi
      · rw [List.getElem?_append_right (by rw [gcf_len hlen]; omega), gcf_len hlen] at hi
        have := k2.2.2 _ z hi
        rw [List.length_append] at this
        rw [show pre.length + i = pre.length + vs.length + (i - vs.length) by omega]
        exact this
  | .inr c :: cs, .inr x :: xs, e :: es, pre, pg, hz, h, hva, hga, hpl => by
    simp only [mtC, Bool.and_eq_true, Bool.or_eq_true, decide_eq_true_eq] at h
    obtain ⟨h1, h2, h4⟩ := h
    have hfe := relC_arr hz.1
    have hfl : (e :: es).flatMap fldE = es.flatMap fldE := by simp [hfe]
    rw [hfl] at hva hga ⊢
    have hfa : (Sum.inr c :: cs : List AC).flatMap fldA = cs.flatMap fldA := by simp [fldA]
    rw [hfa] at hga ⊢
    have k2 := mtC_ok hG hac (va := va) (ga := ga) (cs := cs) (xs := xs) (es := es) (pre := pre) (pg := pg) hz.2 h4 hva hga hpl
    refine ⟨⟨?_, k2.1⟩, k2.2⟩
    rcases h2 with ⟨h2, h3⟩ | ⟨h2, h3⟩
    · have ks : relC [] V cA (.inr c) e := subC_ok (g0 := []) hG ⟨g, rfl⟩ hz.1 (by
        unfold subC
        simp only [List.length_nil, Bool.and_eq_true, decide_eq_true_eq]
        exact ⟨h1.symm, h3⟩)
      exact relC_num h2 ks
    · obtain ⟨c1, c2⟩ := c
      obtain ⟨x1, x2⟩ := x
      simp only at h1 h2 h3
      subst h2
      subst h1
      obtain ⟨f, rfl, b1, b2⟩ := relC_arR hz.1
      have hr := mtR_ok h3
      refine ⟨rfl, rfl, hr.1, b1, fun i b hb => ?_⟩
      obtain ⟨b', e1, e2, e3, e4⟩ := hr.2 i b hb
      obtain ⟨r, e5, e6⟩ := gam_ref (b2 i b' e1) e3
      obtain ⟨tb, b3, b4⟩ := b
      simp only at e2 e4
      subst e2
      exact ⟨r, by simp only; rw [hac _ _ e4]; exact e5, e6⟩
/-- cells at places -/
def gAll {α : Type} (l : List α) : List Nat → Option (List α)
  | [] => some []
  | i :: r => match l[i]?, gAll l r with
    | some a, some as => some (a :: as)
    | _, _ => none
theorem gAll_ok {α : Type} {l : List α} : ∀ {σ : List Nat} {as : List α}, gAll l σ = some as → σ.length = as.length ∧ ∀ (k i : Nat), σ[k]? = some i → as[k]? = l[i]? ∧ ∃ a, l[i]? = some a
  | [], as, h => by cases h; exact ⟨rfl, fun k i hk => by simp at hk⟩
  | j :: r, as, h => by
    unfold gAll at h
    split at h
    · rename_i a as' h1 h2
      cases h
      have ih := gAll_ok h2
      refine ⟨by simp [ih.1], fun k i hk => ?_⟩
      cases k with
      | zero => simp at hk; subst hk; exact ⟨by simp [h1], a, h1⟩
      | succ k => simpa using ih.2 k i (by simpa using hk)
    · cases h
theorem gAll_zf {α β : Type} {R : α → β → Prop} {l : List α} {m : List β} (hz : zf2 R l m) : ∀ {σ : List Nat} {as : List α}, gAll l σ = some as → ∃ bs, gAll m σ = some bs ∧ zf2 R as bs
  | [], as, h => by cases h; exact ⟨[], rfl, trivial⟩
  | j :: r, as, h => by
    unfold gAll at h
    split at h
    · rename_i a as' h1 h2
      cases h
      obtain ⟨b, e1, e2⟩ := zf2_get hz h1
      obtain ⟨bs, e3, e4⟩ := gAll_zf hz h2
      exact ⟨b :: bs, by unfold gAll; rw [e1, e3], e2, e4⟩
    · cases h
theorem gAll_len {α β : Type} {l : List α} {m : List β} (hl : l.length = m.length) : ∀ {σ : List Nat} {as : List α}, gAll l σ = some as → ∃ bs, gAll m σ = some bs
  | [], as, h => ⟨[], rfl⟩
  | j :: r, as, h => by
    unfold gAll at h
    split at h
    · rename_i a as' h1 h2
      obtain ⟨bs, e3⟩ := gAll_len hl h2
      have hj : j < m.length := by rw [← hl]; exact (List.getElem?_eq_some_iff.mp h1).1
      exact ⟨m[j] :: bs, by unfold gAll; rw [List.getElem?_eq_getElem hj, e3]⟩
    · cases h
def sAll {α : Type} (l : List α) : List Nat → List α → List α
  | [], _ => l
  | _ :: _, [] => l
  | i :: r, a :: as => sAll (l.set i a) r as
theorem sAll_len {α : Type} : ∀ {σ : List Nat} {l as : List α}, (sAll l σ as).length = l.length
  | [], _, _ => by simp [sAll]
  | _ :: _, _, [] => by simp [sAll]
  | i :: r, l, a :: as => by unfold sAll; rw [sAll_len (σ := r)]; simp
theorem sAll_out {α : Type} : ∀ {σ : List Nat} {l as : List α} {j : Nat}, j ∉ σ → (sAll l σ as)[j]? = l[j]?
  | [], _, _, _, _ => by simp [sAll]
  | _ :: _, _, [], _, _ => by simp [sAll]
  | i :: r, l, a :: as, j, h => by
    unfold sAll
    rw [sAll_out (σ := r) (fun q => h (List.mem_cons_of_mem _ q)), List.getElem?_set_ne (fun q => h (by rw [q]; exact List.mem_cons_self))]
theorem sAll_in {α : Type} : ∀ {σ : List Nat} {l as : List α} {k i : Nat}, va_nd σ = true → σ.length = as.length → (∀ j ∈ σ, j < l.length) → σ[k]? = some i → (sAll l σ as)[i]? = as[k]?
  | [], _, _, k, i, _, _, _, h => by simp at h
  | _ :: _, _, [], _, _, _, h, _, _ => by simp at h
  | j :: r, l, a :: as, k, i, hn, hl, hb, h => by
    unfold sAll
    simp only [va_nd, Bool.and_eq_true, decide_eq_true_eq] at hn
    cases k with
    | zero =>
      simp at h
      subst h
      rw [sAll_out (σ := r) hn.1, List.getElem?_set_self (hb j List.mem_cons_self)]
      rfl
    | succ k =>
      have := sAll_in (σ := r) (l := l.set j a) (as := as) (k := k) (i := i) hn.2 (by simpa using hl) (fun q hq => by rw [List.length_set]; exact hb q (List.mem_cons_of_mem _ hq)) (by simpa using h)
      rw [this]; simp
end
section
/-! ===== a call: what comes back ===== -/
def bas (x : AV) (off : Int) (b : Nat) : Option AV := match x.1 with
  | 0 => some (b, x.2.1 + off, 0)
  | 1 => some (b + 1, x.2.1, x.2.2 + off)
  | 2 => some (b + 2, x.2.1 + off, x.2.2 + off)
  | 3 => some (b, x.2.1 + off, 0)
  | 4 => some (b + 1, x.2.1, x.2.2 + off)
  | 5 => some (b + 2, x.2.1 + off, x.2.2 + off)
  | _ => none
theorem bas_num {g : List Int} {V : EV} {x b : AV} {v : Value} {off : Int} {t : Nat} (hx : gam g V x v) (h : bas x off t = some b) : ∃ z, numV v = some z ∧ ((b.1 = t ∧ z + off = b.2.1) ∨ (b.1 = t + 1 ∧ ∃ y, g[b.2.1.toNat]? = some y ∧ z + off = y + b.2.2) ∨ (b.1 = t + 2 ∧ b.2.1 ≤ z + off ∧ z + off ≤ b.2.2)) := by
  obtain ⟨tx, x1, x2⟩ := x
  unfold bas at h
  split at h
  · rename_i ht; simp only at ht; subst ht; cases h
    obtain ⟨y, rfl, h2⟩ := hx
    exact ⟨_, rfl, Or.inl ⟨rfl, by simp only at h2 ⊢; omega⟩⟩
  · rename_i ht; simp only at ht; subst ht; cases h
    obtain ⟨y, rfl, z, h2, h3⟩ := hx
    exact ⟨_, rfl, Or.inr (Or.inl ⟨rfl, z, h2, by simp only at h3 ⊢; omega⟩)⟩
  · rename_i ht; simp only at ht; subst ht; cases h
    obtain ⟨y, rfl, h2, h3⟩ := hx
    exact ⟨_, rfl, Or.inr (Or.inr ⟨rfl, by simp only at h2 h3 ⊢; omega, by simp only at h2 h3 ⊢; omega⟩)⟩
  · rename_i ht; simp only at ht; subst ht; cases h
    obtain ⟨y, rfl, h2⟩ := hx
    exact ⟨_, rfl, Or.inl ⟨rfl, by simp only at h2 ⊢; omega⟩⟩
  · rename_i ht; simp only at ht; subst ht; cases h
    obtain ⟨y, rfl, z, h2, h3⟩ := hx
    exact ⟨_, rfl, Or.inr (Or.inl ⟨rfl, z, h2, by simp only at h3 ⊢; omega⟩)⟩
  · rename_i ht; simp only at ht; subst ht; cases h
    obtain ⟨y, rfl, h2, h3⟩ := hx
    exact ⟨_, rfl, Or.inr (Or.inr ⟨rfl, by simp only at h2 h3 ⊢; omega, by simp only at h2 h3 ⊢; omega⟩)⟩
  · cases h
def trV (σ : List Nat) (cv xv : List AV) (a : AV) : Option AV := match a.1 with
  | 1 => match cv[a.2.1.toNat]?, xv[a.2.1.toNat]? with
    | some c, some x => if c.1 = 1 ∨ c.1 = 4 then bas x a.2.2 0 else none
    | _, _ => none
  | 4 => match cv[a.2.1.toNat]?, xv[a.2.1.toNat]? with
    | some c, some x => if c.1 = 1 ∨ c.1 = 4 then bas x a.2.2 3 else none
    | _, _ => none
  | 6 => match σ[a.2.1.toNat]? with
    | some i => some (6, (i : Int), 0)
    | none => none
  | 8 => xv[a.2.1.toNat]?
  | 0 => some a
  | 2 => some a
  | 3 => some a
  | 5 => some a
  | 7 => some a
  | _ => none
theorem gcf_get : ∀ {cs : List AV} {vs : List Value} {k : Nat} {c : AV} {v : Value}, cs[k]? = some c → vs[k]? = some v → (gcf cs vs)[k]? = some (gvl c v)
  | [], _, _, _, _, h, _ => by simp at h
  | _ :: _, [], _, _, _, _, h => by simp at h
  | c :: cs, v :: vs, 0, _, _, h, h' => by simp at h h'; subst h; subst h'; rfl
  | c :: cs, v :: vs, k + 1, _, _, h, h' => by simpa [gcf] using gcf_get (cs := cs) (vs := vs) (k := k) (by simpa using h) (by simpa using h')
theorem trV_ok {σ ac : List Nat} {cv xv : List AV} {g : List Int} {V : EV} {va : List Value} {a b : AV} {v : Value} (hz : zf2 (gam g V) xv va) (hac : ∀ (r i : Nat), σ[r]? = some i → ac[r]? = V.2[i]?) (hsl : σ.length = ac.length) (ha : gam (gcf cv va) (va, ac) a v) (h : trV σ cv xv a = some b) : gam g V b v := by
  obtain ⟨t, a1, a2⟩ := a
  unfold trV at h
  split at h
  · rename_i ht; simp only at ht; subst ht
    split at h
    · rename_i c x hc hxv
      split at h
      · rename_i hct
        obtain ⟨y, rfl, z, h2, h3⟩ := ha
        simp only at h2 h3 hc hxv h
        obtain ⟨u, e1, e2⟩ := zf2_get hz hxv
        have e3 := gcf_get hc e1
        have e4 : z = gvl c u := Option.some.inj (h2.symm.trans e3)
        obtain ⟨w, e5, e6⟩ := bas_num e2 h
        have e7 : gvl c u = w := by unfold gvl; rw [if_pos hct, e5]; rfl
        obtain ⟨tb, b1, b2⟩ := b
        simp only at e6
        rcases e6 with ⟨rfl, e8⟩ | ⟨rfl, q, e8, e9⟩ | ⟨rfl, e8, e9⟩
        · exact ⟨y, rfl, by simp only; omega⟩
        · exact ⟨y, rfl, q, e8, by simp only; omega⟩
        · exact ⟨y, rfl, by simp only; omega, by simp only; omega⟩
      · cases h
    · cases h
  · rename_i ht; simp only at ht; subst ht
    split at h
    · rename_i c x hc hxv
      split at h
      · rename_i hct
        obtain ⟨y, rfl, z, h2, h3⟩ := ha
        simp only at h2 h3 hc hxv h
        obtain ⟨u, e1, e2⟩ := zf2_get hz hxv
        have e3 := gcf_get hc e1
        have e4 : z = gvl c u := Option.some.inj (h2.symm.trans e3)
        obtain ⟨w, e5, e6⟩ := bas_num e2 h
        have e7 : gvl c u = w := by unfold gvl; rw [if_pos hct, e5]; rfl
        obtain ⟨tb, b1, b2⟩ := b
        simp only at e6
        rcases e6 with ⟨rfl, e8⟩ | ⟨rfl, q, e8, e9⟩ | ⟨rfl, e8, e9⟩
        · exact ⟨y, rfl, by simp only; omega⟩
        · exact ⟨y, rfl, q, e8, by simp only; omega⟩
        · exact ⟨y, rfl, by simp only; omega, by simp only; omega⟩
      · cases h
    · cases h
  · rename_i ht; simp only at ht; subst ht
    split at h
    · rename_i i hi
      cases h
      obtain ⟨r, h2, h3⟩ := ha
      simp only at h2 hi
      exact ⟨r, by simp only [Int.toNat_natCast]; rw [← hac _ _ hi]; exact h2, h3⟩
    · cases h
  · rename_i ht; simp only at ht; subst ht
    have ha : va[a1.toNat]? = some v := ha
    obtain ⟨u, e1, e2⟩ := zf2_get hz h
    simp only at e1
    rw [ha] at e1
    cases e1
    exact e2
  · rename_i ht; simp only at ht; subst ht; cases h; exact ha
  · rename_i ht; simp only at ht; subst ht; cases h; exact ha
  · rename_i ht; simp only at ht; subst ht; cases h; exact ha
  · rename_i ht; simp only at ht; subst ht; cases h; exact ha
  · rename_i ht; simp only at ht; subst ht; cases h; exact ha
  · cases h
def trF (σ : List Nat) (cv xv : List AV) : List AV → Option (List AV)
  | [] => some []
  | a :: r => match trV σ cv xv a, trF σ cv xv r with
    | some b, some s => some (b :: s)
    | _, _ => none
theorem trF_ok {σ ac : List Nat} {cv xv : List AV} {g : List Int} {V : EV} {va : List Value} (hz : zf2 (gam g V) xv va) (hac : ∀ (r i : Nat), σ[r]? = some i → ac[r]? = V.2[i]?) (hsl : σ.length = ac.length) : ∀ {as bs : List AV} {vs : List Value}, zf2 (gam (gcf cv va) (va, ac)) as vs → trF σ cv xv as = some bs → zf2 (gam g V) bs vs
  | [], _, [], _, h => by cases h; trivial
  | [], _, _ :: _, hz', _ => hz'.elim
  | _ :: _, _, [], hz', _ => hz'.elim
  | a :: as, bs, v :: vs, hz', h => by
    unfold trF at h
    split at h
    · rename_i b s h1 h2
      cases h
      exact ⟨trV_ok hz hac hsl hz'.1 h1, trF_ok hz hac hsl hz'.2 h2⟩
    · cases h
/-- what the caller learns of its own numbers; none: it can't be so -/
def rfn (G : GI) : List AV → List AV → GI → Option GI
  | c :: cs, x :: xs, q :: qs => if c.1 = 1 then (match ivI G x with
      | some r => if max r.1 q.1 ≤ min r.2 q.2 then rfn (setG G x (max r.1 q.1, min r.2 q.2)) cs xs qs else none
      | none => rfn G cs xs qs) else if c.1 = 4 then (match ivL G x with
      | some r => if max r.1 q.1 ≤ min r.2 q.2 then rfn (setG G x (max r.1 q.1, min r.2 q.2)) cs xs qs else none
      | none => rfn G cs xs qs) else rfn G cs xs qs
  | [], _, _ => some G
  | _, [], _ => some G
  | _, _, [] => some G
theorem rfn_ok {g : List Int} {V : EV} : ∀ {cs xs : List AV} {qs : GI} {vs : List Value} {G : GI}, GS G g → zf2 (gam g V) xs vs → zf2 inI qs (gcf cs vs) → cs.length = vs.length → ∃ G', rfn G cs xs qs = some G' ∧ GS G' g
  | [], xs, qs, vs, G, hG, _, _, _ => ⟨G, by unfold rfn; rfl, hG⟩
  | _ :: _, [], qs, vs, G, hG, _, _, _ => ⟨G, by unfold rfn; rfl, hG⟩
  | _ :: _, _ :: _, [], vs, G, hG, _, _, _ => ⟨G, by unfold rfn; rfl, hG⟩
  | c :: cs, x :: xs, q :: qs, [], G, hG, hz, _, _ => hz.elim
  | c :: cs, x :: xs, q :: qs, v :: vs, G, hG, hz, hq, hl => by
    have hq1 := hq.1
    have ih := fun (G2 : GI) (h2 : GS G2 g) => rfn_ok (cs := cs) (xs := xs) (qs := qs) (vs := vs) (G := G2) h2 hz.2 hq.2 (by simpa using hl)
    unfold rfn
    split
    · rename_i hc
      split
      · rename_i r hr
        obtain ⟨y, rfl, e1⟩ := ivI_ok hG hz.1 hr
        have hgv : gvl c (.int y) = y.toInt := by unfold gvl; rw [if_pos (Or.inl hc)]; rfl
        rw [hgv] at hq1
        unfold inI at hq1 e1
        rw [if_pos (by omega)]
        exact ih _ (setG_ok hG hz.1 rfl (by unfold inI; simp only; omega))
      · exact ih G hG
    · split
      · rename_i hc
        split
        · rename_i r hr
          obtain ⟨y, rfl, e1⟩ := ivL_ok hG hz.1 hr
          have hgv : gvl c (.long y) = y.toInt := by unfold gvl; rw [if_pos (Or.inr hc)]; rfl
          rw [hgv] at hq1
          unfold inI at hq1 e1
          rw [if_pos (by omega)]
          exact ih _ (setG_ok hG hz.1 rfl (by unfold inI; simp only; omega))
        · exact ih G hG
      · exact ih G hG
def relK (g : List Int) (V : EV) (cA : Nat → ClassId) (x : Bool × AC) (y : va_E) : Prop := x.1 = true → relC g V cA x.2 y
def trH (σ : List Nat) (cv xv : List AV) : HP → HP → Option HP
  | [], [] => some []
  | (false, _) :: os, x :: xs => match trH σ cv xv os xs with
    | some r => some (x :: r)
    | none => none
  | (true, .inl o) :: os, _ :: xs => match trF σ cv xv o.2, trH σ cv xv os xs with
    | some fs, some r => some ((true, .inl (o.1, fs)) :: r)
    | _, _ => none
  | (true, .inr t) :: os, _ :: xs => if numS t.2 = true then (match trH σ cv xv os xs with
    | some r => some ((true, .inr t) :: r)
    | none => none) else none
  | _, _ => none
theorem trH_ok {σ ac : List Nat} {cv xv : List AV} {g : List Int} {V : EV} {va : List Value} {cA : Nat → ClassId} (hz : zf2 (gam g V) xv va) (hac : ∀ (r i : Nat), σ[r]? = some i → ac[r]? = V.2[i]?) (hsl : σ.length = ac.length) : ∀ {os xs r : HP} {es es' : List va_E}, zf2 (relK (gcf cv va) (va, ac) cA) os es' → zf2 (fun (x : Bool × AC) (y : va_E) => relC g V cA x.2 y) xs es → (∀ (j : Nat) (q : Bool × AC), os[j]? = some q → q.1 = false → es'[j]? = es[j]?) → trH σ cv xv os xs = some r → zf2 (fun (x : Bool × AC) (y : va_E) => relC g V cA x.2 y) r es' ∧ r.length = xs.length ∧ ∀ (j : Nat) (q : Bool × AC), r[j]? = some q → q.1 = false → xs[j]? = some q ∧ es'[j]? = es[j]?
  | [], [], r, [], [], _, _, _, h => by cases h; exact ⟨trivial, rfl, fun j q hj => by simp at hj⟩
  | [], [], r, _ :: _, _, _, h, _, _ => h.elim
  | [], _, r, _, _ :: _, h, _, _, _ => h.elim
  | [], _ :: _, r, _, _, _, _, _, h => by simp [trH] at h
  | (b, c) :: _, [], r, _, _, _, _, _, h => by cases b <;> cases c <;> simp [trH] at h
  | _ :: _, _, r, _, [], h, _, _, _ => h.elim
  | _ :: _, _ :: _, r, [], _ :: _, _, h, _, _ => h.elim
  | (b, c) :: os, x :: xs, r, e :: es, e' :: es', h1, h2, h3, h => by
    have h3' : ∀ (j : Nat) (q : Bool × AC), os[j]? = some q → q.1 = false → es'[j]? = es[j]? := fun j q hj hq => by simpa using h3 (j + 1) q (by simpa using hj) hq
    match b, c, h with
    | false, c, h =>
      unfold trH at h
      split at h
      · rename_i r' hr'
        cases h
        have ih := trH_ok hz hac hsl h1.2 h2.2 h3' hr'
        have he : e' = e := by have := h3 0 (false, c) rfl rfl; simpa using this
        subst he
        refine ⟨⟨h2.1, ih.1⟩, by simp [ih.2.1], fun j q hj hq => ?_⟩
        cases j with
        | zero => simp at hj; subst hj; exact ⟨rfl, rfl⟩
        | succ j => simpa using ih.2.2 j q (by simpa using hj) hq
      · cases h
    | true, .inl o, h =>
      unfold trH at h
      split at h
      · rename_i fs r' hfs hr'
        cases h
        have ih := trH_ok hz hac hsl h1.2 h2.2 h3' hr'
        obtain ⟨o1, o2⟩ := o
        obtain ⟨vs, rfl, e5⟩ := relC_obj (h1.1 rfl)
        refine ⟨⟨⟨rfl, trF_ok hz hac hsl e5 hfs⟩, ih.1⟩, by simp [ih.2.1], fun j q hj hq => ?_⟩
        cases j with
        | zero => simp at hj; subst hj; cases hq
        | succ j => simpa using ih.2.2 j q (by simpa using hj) hq
      · cases h
    | true, .inr t, h =>
      unfold trH at h
      split at h
      · rename_i hn
        split at h
        · rename_i r' hr'
          cases h
          have ih := trH_ok hz hac hsl h1.2 h2.2 h3' hr'
          refine ⟨⟨relC_num hn (h1.1 rfl), ih.1⟩, by simp [ih.2.1], fun j q hj hq => ?_⟩
          cases j with
          | zero => simp at hj; subst hj; cases hq
          | succ j => simpa using ih.2.2 j q (by simpa using hj) hq
        · cases h
      · cases h
end
section
/-! ===== contracts, and a call by one ===== -/
def nestM : List (String × Nat × MethodName × String) := [(RX11, 9, ⟨RX10, "<init>", "()V"⟩, RX11), (RX6, 11, ⟨RX4, "<init>", "()V"⟩, RX11), (RX11, 27, ⟨RX9, "<init>", "()V"⟩, RX11), (RX9, 9, ⟨RX4, "<init>", "()V"⟩, RX11), (RX9, 18, ⟨RX0, "<init>", "()V"⟩, RX11), (RX11, 38, ⟨RX8, "<init>", "()V"⟩, RX11), (RX11, 58, ⟨RX7, "<init>", "()V"⟩, RX11), (RX11, 68, ⟨RX3, "<init>", "()V"⟩, RX11), (RX11, 87, ⟨RX2, "<init>", "()V"⟩, RX11), (RX6, 147, ⟨RX11, "hasBit", "(II)Z"⟩, RX11), (RX1, 45, ⟨RX11, "hasBit", "(II)Z"⟩, RX11), (RX3, 58, ⟨RX11, "hasBit", "(II)Z"⟩, RX11), (RX5, 70, ⟨RX11, "hasBit", "(II)Z"⟩, RX11), (RX2, 40, ⟨RX11, "hasBit", "(II)Z"⟩, RX11)]
def NOK (U : State) : Prop := ∀ q ∈ nestM, va_Nw (.methodLinkNest q.1 q.2.1 q.2.2.1 q.2.2.2) U
theorem NOK_same {u U : State} (h : u.vm = U.vm) (hn : NOK u) : NOK U := fun q hq => va_Nw.same rfl h (hn q hq)
theorem NOK_warm {s U : State} (hW : s.WarmedH U.vm) (hn : NOK s) : NOK U := fun q hq => va_Nw.warmM hW (hn q hq)
/-- a method (its name, bytes, locals, what it returns), its room (frames, locals), its start (arguments, numbers, cells), its ends (answer, numbers, cells: false: as they were) -/
abbrev Con : Type := (MethodName × ByteArray × Nat × Option FieldType) × (Nat × Nat) × (List AV × GI × List AC) × List (AV × GI × HP)
def retR (g : List Int) (V : EV) (r : AV) (oc : Outcome) : Prop := (r.1 = 9 ∧ oc = .returned none) ∨ (r.1 ≠ 9 ∧ ∃ v, oc = .returned (some v) ∧ gam g V r v)
def PcC (D : va_G) (cl : List vw_C) (cA : Nat → ClassId) (vs : List Value) (ad : List Nat) (es : List va_E) (sz : Nat) : Array Value → State → Prop := va_Pc vs (fun U => U.heap.size = sz ∧ va_P D cl (zw ad es) U.heap ∧ va_K D cl (tysA cA) U ∧ va_D (fun _ => True) (zw ad es) ∧ NOK U)
def OutC (D : va_G) (cl : List vw_C) (cA : Nat → ClassId) (outs : List (AV × GI × HP)) (g : List Int) (gv : List Value) (ad : List Nat) (es : List va_E) (oc : Outcome) (t : State) : Prop := ∃ o ∈ outs, ∃ es', retR g (gv, ad) o.1 oc ∧ GS o.2.1 g ∧ zf2 (relK g (gv, ad) cA) o.2.2 es' ∧ kep o.2.2 es es' ∧ va_P D cl (zw ad es') t.heap ∧ es'.length = ad.length
def QcC (D : va_G) (cl : List vw_C) (cA : Nat → ClassId) (outs : List (AV × GI × HP)) (g : List Int) (gv : List Value) (ad : List Nat) (es : List va_E) (sz : Nat) : Array Value → State → Outcome → State → Prop := fun _ st oc t => OutC D cl cA outs g gv ad es oc t ∧ va_F (va_A (zw ad es) sz) st t
def rmC (k : Con) : Room := { frames := k.2.1.1, cells := 0, slots := 0, locals := k.2.1.2 }
def Vld (l : Launch) (cl : List vw_C) (Ts : List Jvm.Cond) (k : Con) : Prop := ∀ (D : va_G) (cA : Nat → ClassId) (g : List Int) (gv : List Value) (ad : List Nat) (es : List va_E) (vs : List Value) (sz : Nat), GS k.2.2.1.2.1 g → zf2 (gam g (gv, ad)) k.2.2.1.1 vs → zf2 (relC g (gv, ad) cA) k.2.2.1.2.2 es → es.length = ad.length →
  Met l k.1.1 (.code k.1.1 k.1.2.1 k.1.2.2.1 k.1.2.2.2 :: Ts) (rmC k) (PcC D cl cA vs ad es sz) (QcC D cl cA k.2.2.2 g gv ad es sz) 0 0 (va_A (zw ad es) sz)
/-- a call that the caller's class may make: by its index, of an object's method (false) or not (true) -/
def COK (own : String) (cl : List vw_C) (Ts : List Jvm.Cond) (i : Nat) (st : Bool) (k : Con) : Prop :=
  Jvm.Cond.code k.1.1 k.1.2.1 k.1.2.2.1 k.1.2.2.2 ∈ Ts ∧ Jvm.Cond.methodLink own i k.1.1 ∈ Ts ∧ Jvm.Cond.initialized k.1.1.cls ∈ Ts ∧ (k.1.1.cls ≠ "java/lang/invoke/MethodHandle" ∧ k.1.1.cls ≠ "java/lang/invoke/VarHandle") ∧
  (st = true → Jvm.Cond.static k.1.1 ∈ Ts ∧ (parseMethodDescriptor k.1.1.desc).map (fun d => d.parameters.length) = some k.2.2.1.1.length) ∧
  (st = false → Jvm.Cond.instanceMethod k.1.1 ∈ Ts ∧ Jvm.Cond.selects k.1.1.cls k.1.1 k.1.1 ∈ Ts ∧ (∃ as, k.2.2.1.1 = (6, 0, 0) :: as ∧ (parseMethodDescriptor k.1.1.desc).map (fun d => d.parameters.length) = some as.length) ∧ ∃ (ci : Nat) (fs : List AV) (F : u_T) (N : Nat), k.2.2.1.2.2[0]? = some (.inl (ci, fs)) ∧ cl[ci]? = some (k.1.1.cls, F, N))
def cOut (a : AS) (σ : List Nat) (cv xv : List AV) (rest : List AV) (cells : HP) (o : AV × GI × HP) : Option (List AS) :=
  if o.2.1.length = cv.length then (match trH σ cv xv o.2.2 cells with
    | none => none
    | some cs => match rfn a.2.2.2.1 cv xv o.2.1 with
      | none => some []
      | some G => if o.1.1 = 9 then some [(a.1 + 3, a.2.1, rest, G, sAll a.2.2.2.2 σ cs)] else (match trV σ cv xv o.1 with
        | none => none
        | some r => match nam G r with
          | none => none
          | some q => some [(a.1 + 3, a.2.1, q.2 :: rest, q.1, sAll a.2.2.2.2 σ cs)])) else none
def cOuts (a : AS) (σ : List Nat) (cv xv : List AV) (rest : List AV) (cells : HP) : List (AV × GI × HP) → Option (List AS)
  | [] => some []
  | o :: r => match cOut a σ cv xv rest cells o, cOuts a σ cv xv rest cells r with
    | some L1, some L2 => some (L1 ++ L2)
    | _, _ => none
theorem cOuts_mem {a : AS} {σ : List Nat} {cv xv rest : List AV} {cells : HP} : ∀ {outs : List (AV × GI × HP)} {L : List AS} {o : AV × GI × HP}, cOuts a σ cv xv rest cells outs = some L → o ∈ outs → ∃ L', cOut a σ cv xv rest cells o = some L' ∧ ∀ b ∈ L', b ∈ L
  | [], _, _, _, h => by cases h
  | x :: r, L, o, h, ho => by
    unfold cOuts at h
    split at h
    · rename_i L1 L2 h1 h2
      cases h
      rcases List.mem_cons.mp ho with rfl | ho
      · exact ⟨L1, h1, fun b hb => List.mem_append_left _ hb⟩
      · obtain ⟨L', e1, e2⟩ := cOuts_mem h2 ho
        exact ⟨L', e1, fun b hb => List.mem_append_right _ (e2 b hb)⟩
    · cases h
def cll (R : Nat × Nat) (a : AS) (k : Con) (σ : List Nat) : Option (List AS) :=
  if k.2.2.1.1.length ≤ a.2.2.1.length ∧ va_nd σ = true ∧ (((a.2.2.1.drop k.2.2.1.1.length).map catA).sum ≤ 8 ∧ (a.2.2.1.drop k.2.2.1.1.length).all (fun q => decide (q.1 ≠ 8)) = true) ∧ k.2.1.1 + 1 ≤ R.1 ∧ 8 + (k.1.2.2.1 + 11) + k.2.1.2 ≤ R.2 then (match gAll a.2.2.2.2 σ with
    | none => none
    | some cells => if mtc σ a.2.2.2.1 k.2.2.1.2.1 0 k.2.2.1.1 (a.2.2.1.take k.2.2.1.1.length).reverse && (mtC σ a.2.2.2.1 k.2.2.1.2.1 k.2.2.1.1.length k.2.2.1.2.2 (cells.map Prod.snd) && decide (k.2.2.1.2.1.length = (k.2.2.1.1 ++ k.2.2.1.2.2.flatMap fldA).length)) then
        cOuts a σ (k.2.2.1.1 ++ k.2.2.1.2.2.flatMap fldA) ((a.2.2.1.take k.2.2.1.1.length).reverse ++ (cells.map Prod.snd).flatMap fldA) (a.2.2.1.drop k.2.2.1.1.length) cells k.2.2.2 else none) else none
theorem zf2_take {α β : Type} {R : α → β → Prop} : ∀ {n : Nat} {as : List α} {bs : List β}, zf2 R as bs → zf2 R (as.take n) (bs.take n) ∧ zf2 R (as.drop n) (bs.drop n)
  | 0, as, bs, h => ⟨by simp [zf2], by simpa using h⟩
  | n + 1, [], [], _ => ⟨by simp [zf2], by simp [zf2]⟩
  | n + 1, [], _ :: _, h => h.elim
  | n + 1, _ :: _, [], h => h.elim
  | n + 1, a :: as, b :: bs, h => by
    have ih := zf2_take (n := n) h.2
    exact ⟨⟨h.1, ih.1⟩, ih.2⟩
theorem zf2_apps {α β : Type} {R : α → β → Prop} : ∀ {as as' : List α} {bs bs' : List β}, zf2 R as bs → zf2 R as' bs' → zf2 R (as ++ as') (bs ++ bs')
  | [], _, [], _, _, h => h
  | [], _, _ :: _, _, h, _ => h.elim
  | _ :: _, _, [], _, h, _ => h.elim
  | _ :: as, _, _ :: bs, _, h, h' => ⟨h.1, zf2_apps (as := as) (bs := bs) h.2 h'⟩
theorem zf2_rev {α β : Type} {R : α → β → Prop} : ∀ {as : List α} {bs : List β}, zf2 R as bs → zf2 R as.reverse bs.reverse
  | [], [], _ => trivial
  | [], _ :: _, h => h.elim
  | _ :: _, [], h => h.elim
  | a :: as, b :: bs, h => by
    rw [List.reverse_cons, List.reverse_cons]
    exact zf2_apps (zf2_rev (as := as) (bs := bs) h.2) ⟨h.1, trivial⟩
theorem zf2_fld {g : List Int} {V : EV} {cA : Nat → ClassId} : ∀ {xs : List AC} {es : List va_E}, zf2 (relC g V cA) xs es → zf2 (gam g V) (xs.flatMap fldA) (es.flatMap fldE)
  | [], [], _ => trivial
  | [], _ :: _, h => h.elim
  | _ :: _, [], h => h.elim
  | .inl x :: xs, e :: es, h => by
    obtain ⟨x1, x2⟩ := x
    obtain ⟨vs, rfl, e5⟩ := relC_obj h.1
    simp only [List.flatMap_cons]
    exact zf2_apps e5 (zf2_fld (xs := xs) (es := es) h.2)
  | .inr x :: xs, e :: es, h => by
    simp only [List.flatMap_cons, relC_arr h.1]
    exact zf2_fld (xs := xs) (es := es) h.2
theorem zf2_map {α β γ : Type} {R : γ → β → Prop} {f : α → γ} : ∀ {as : List α} {bs : List β}, zf2 (fun a b => R (f a) b) as bs → zf2 R (as.map f) bs
  | [], [], _ => trivial
  | [], _ :: _, h => h.elim
  | _ :: _, [], h => h.elim
  | _ :: as, _ :: bs, h => ⟨h.1, zf2_map (as := as) (bs := bs) h.2⟩
theorem cat_sum {g : List Int} {V : EV} : ∀ {st : List AV} {sv : List Value}, zf2 (gam g V) st sv → st.all (fun q => decide (q.1 ≠ 8)) = true → (sv.map fun v => v.category).sum = (st.map catA).sum
  | [], [], _, _ => rfl
  | [], _ :: _, h, _ => h.elim
  | _ :: _, [], h, _ => h.elim
  | a :: st, v :: sv, h, ha => by
    simp only [List.all_cons, Bool.and_eq_true, decide_eq_true_eq] at ha
    simp only [List.map_cons, List.sum_cons]
    rw [gam_cat h.1 ha.1, cat_sum h.2 ha.2]
/-- a call that ends with a contract's end -/
theorem my_call {p : Program} {l : Launch} {e : Env} {R : Room} {s : State} {m : MethodId} {args : Array Value} {below : List Frame} {meth : Method} {c : Code} {H : Heap} {locs : List Loc} {cells slots : Nat} {Q : State → Prop} {pc : Nat} {ls : Array Slot} {rest st0 : List Value} {A0 A1 : Nat → Prop} {H0 : Heap} {free : Addr → Prop} {P : Outcome → State → Prop} (hr : va_Run p l e R s m args below meth c H locs cells slots 0 0 (F0 m pc ls st0) rest (fun st oc t => P oc t ∧ va_F A1 st t) free) (hS : va_S A0 H0 H locs) (hA : ∀ q, q < H.size → A1 q → A0 q) (hf : ∀ q, free q → A0 q)
    (kk : ∀ (v : Option Value) (t : State) (H1 : Heap) (locs1 : List Loc), t.heap = H1 → P (.returned v) t → H.size ≤ H1.size → (∀ q : Nat, q < H.size → ¬ A1 q → H1[q]? = H[q]?) → va_S A0 H0 H1 locs1 → W p l e R s m args below meth c H1 locs1 cells slots Q (F0 m (pc + 3) ls (v.toList ++ rest))) : W p l e R s m args below meth c H locs cells slots Q (F0 m pc ls st0) := by
  intro T hT X
  obtain ⟨v, st₀, t, T', L, h0, X', hL, e1, e2, ⟨hp, hz, hk⟩, st⟩ := hr T hT X
  rw [h0] at hz hk
  obtain ⟨t2, a1, b1⟩ := kk v t T'.heap (locs ++ L) e1.symm hp (by rw [e1]; exact hz) (fun q h1 h2 => by rw [e1]; exact hk q h1 h2)
    ⟨Nat.le_trans hS.1 (by rw [e1]; exact hz), fun q h1 h2 => by rw [e1, hk q (Nat.lt_of_lt_of_le h1 hS.1) (fun z => h2 (hA q (Nat.lt_of_lt_of_le h1 hS.1) z))]; exact hS.2.1 q h1 h2, fun q hq => by
      rcases List.mem_append.mp hq with h | h
      · exact hS.2.2 q h
      · exact hf _ (hL q h)⟩ T' rfl X'
  exact ⟨t2, st t2 a1, b1⟩
theorem zw_sub {ad ac : List Nat} {es ec : List va_E} {σ : List Nat} (h1 : gAll ad σ = some ac) (h2 : gAll es σ = some ec) : σ.map (fun i => (zw ad es)[i]?) = (zw ac ec).map some := by
  have k1 := gAll_ok h1
  have k2 := gAll_ok h2
  apply List.ext_getElem?
  intro k
  rw [List.getElem?_map, List.getElem?_map]
  cases hk : σ[k]? with
  | none =>
    have hlen : σ.length ≤ k := by
      rcases Nat.lt_or_ge k σ.length with q | q
      · rw [List.getElem?_eq_getElem q] at hk; cases hk
      · exact q
    cases hz : (zw ac ec)[k]? with
    | none => rfl
    | some q =>
      have := (zw_inv hz).1
      rw [List.getElem?_eq_none (by rw [← k1.1]; exact hlen)] at this
      cases this
  | some i =>
    obtain ⟨e1, a, e2⟩ := k1.2 k i hk
    obtain ⟨e3, b, e4⟩ := k2.2 k i hk
    rw [zw_get (e1.trans e2) (e3.trans e4)]
    simp only [Option.map_some]
    rw [zw_get e2 e4]
theorem va_D_len {A : Nat → Prop} {ad : List Nat} {es es' : List va_E} (h : va_D A (zw ad es)) (h1 : es.length = ad.length) : va_D A (zw ad es') := by
  have key : ∀ (k : Nat) (q : Nat × va_E), (zw ad es')[k]? = some q → ∃ e0, (zw ad es)[k]? = some (q.1, e0) := fun k q hq => by
    have h3 := (zw_inv hq).1
    have hlt : k < es.length := by rw [h1]; exact (List.getElem?_eq_some_iff.mp h3).1
    exact ⟨es[k], zw_get h3 (List.getElem?_eq_getElem hlt)⟩
  refine ⟨fun i j a b ha hb hab => ?_, fun k q hq => ?_⟩
  · obtain ⟨e1, k1⟩ := key i a ha
    obtain ⟨e2, k2⟩ := key j b hb
    exact h.1 i j _ _ k1 k2 hab
  · obtain ⟨e1, k1⟩ := key k q hq
    exact h.2 k (q.1, e1) k1
end
section
/-! ===== a call by a contract is right ===== -/
theorem va_P_sub {D : va_G} {cl : List vw_C} {ws ws' : va_W} {H : Heap} {σ : List Nat} (h : va_P D cl ws H) (hs : σ.map (fun i => ws[i]?) = ws'.map some) : va_P D cl ws' H := fun k q hk => by
  have h1 : (σ.map (fun i => ws[i]?))[k]? = some (some q) := by rw [hs, List.getElem?_map, hk]; rfl
  rw [List.getElem?_map] at h1
  cases hi : σ[k]? with
  | none => rw [hi] at h1; cases h1
  | some i => rw [hi] at h1; exact h i q (Option.some.inj h1)
theorem sg_or (σ : List Nat) (j : Nat) : (∃ k : Nat, σ[k]? = some j) ∨ j ∉ σ := by
  by_cases h : j ∈ σ
  · exact Or.inl (List.getElem?_of_mem h)
  · exact Or.inr h
theorem HS_join {D : va_G} {cl : List vw_C} {A : Nat → Prop} {H0 : Heap} {V : EV} {cA : Nat → ClassId} {es0 : List va_E} {hp : HP} {g : List Int} {es : List va_E} {H H1 : Heap} {locs locs1 : List Loc} {σ ac : List Nat} {ec es' : List va_E} {cells cs : HP} (h : HS D cl A H0 V cA es0 hp g es H locs) (hnd : va_nd σ = true) (hce : gAll hp σ = some cells) (hec : gAll es σ = some ec) (hac : gAll V.2 σ = some ac) (hcs : zf2 (fun (x : Bool × AC) (y : va_E) => relC g V cA x.2 y) cs es') (hcl : cs.length = cells.length) (hel : es'.length = ac.length) (hkp : ∀ (j : Nat) (q : Bool × AC), cs[j]? = some q → q.1 = false → cells[j]? = some q ∧ es'[j]? = ec[j]?)
    (hk : ∀ q : Nat, q < H.size → ¬ va_A (zw ac ec) H.size q → H1[q]? = H[q]?) (hP1 : va_P D cl (zw ac es') H1) (hS1 : va_S A H0 H1 locs1) : HS D cl A H0 V cA es0 (sAll hp σ cs) g (sAll es σ es') H1 locs1 := by
  obtain ⟨a1, a2, a3, a4, a5, a6⟩ := h
  have kc := gAll_ok hce
  have ke := gAll_ok hec
  have ka := gAll_ok hac
  have hb1 : ∀ j ∈ σ, j < hp.length := fun j hj => by
    obtain ⟨k, hk⟩ := List.getElem?_of_mem hj
    obtain ⟨-, x, hx⟩ := kc.2 k j hk
    exact (List.getElem?_eq_some_iff.mp hx).1
  have hb2 : ∀ j ∈ σ, j < es.length := fun j hj => by rw [← zf2_len a1]; exact hb1 j hj
  have hl1 : σ.length = cs.length := kc.1.trans hcl.symm
  have hl2 : σ.length = es'.length := ka.1.trans hel.symm
  refine ⟨?_, ?_, ?_, ?_, hS1, by rw [sAll_len]; exact a6⟩
  · refine zf2_of (by rw [sAll_len, sAll_len]; exact zf2_len a1) (fun i x y hx hy => ?_)
    rcases sg_or σ i with ⟨k, hk⟩ | hno
    · rw [sAll_in hnd hl1 hb1 hk] at hx
      rw [sAll_in hnd hl2 hb2 hk] at hy
      obtain ⟨b, e1, e2⟩ := zf2_get hcs hx
      rw [hy] at e1
      cases e1
      exact e2
    · rw [sAll_out hno] at hx hy
      obtain ⟨b, e1, e2⟩ := zf2_get a1 hx
      rw [hy] at e1
      cases e1
      exact e2
  · intro j q hj hq
    rcases sg_or σ j with ⟨k, hk⟩ | hno
    · rw [sAll_in hnd hl1 hb1 hk] at hj
      obtain ⟨e1, e2⟩ := hkp k q hj hq
      rw [sAll_in hnd hl2 hb2 hk, e2, (ke.2 k j hk).1]
      exact a2 j q ((kc.2 k j hk).1.symm.trans e1) hq
    · rw [sAll_out hno] at hj ⊢
      exact a2 j q hj hq
  · intro i q hq
    obtain ⟨q1, q2⟩ := zw_inv hq
    rcases sg_or σ i with ⟨k, hk'⟩ | hno
    · rw [sAll_in hnd hl2 hb2 hk'] at q2
      have h3 : ac[k]? = some q.1 := (ka.2 k i hk').1.trans q1
      exact hP1 k q (zw_get h3 q2)
    · rw [sAll_out hno] at q2
      have h4 : (zw V.2 es)[i]? = some q := zw_get q1 q2
      have h5 := a3 i q h4
      refine h5.kept (hk q.1 h5.lt (fun hA => ?_))
      rcases hA with ⟨k, e, h6⟩ | h6
      · have h7 := (zw_inv h6).1
        have h7e := (zw_inv h6).2
        have hkl : k < σ.length := by rw [ka.1]; exact (List.getElem?_eq_some_iff.mp h7).1
        have h8 : σ[k]? = some σ[k] := List.getElem?_eq_getElem hkl
        have h9 := (ka.2 k _ h8).1
        have h10 := (ke.2 k _ h8).1
        have h11 : (zw V.2 es)[σ[k]]? = some (q.1, e) := zw_get (h9.symm.trans h7) (h10.symm.trans h7e)
        have := a4.1 i σ[k] _ _ h4 h11 rfl
        exact hno (by rw [this]; exact List.getElem_mem hkl)
      · exact absurd h5.lt (by omega)
  · exact va_D_len a4 a6
section CLL
variable {p : Program} {l : Launch} {e : Env} {R : Room} {s : State} {m : MethodId} {args : Array Value} {below : List Frame} {meth : Method} {c : Code} {cs0 ss0 : Nat} {Q : State → Prop} {cc : ByteArray} {own : String} {Ts : List Jvm.Cond} {D : va_G} {cl : List vw_C} {A : Nat → Prop} {V : EV} {cA : Nat → ClassId} {es0 : List va_E} {g0 : List Int}
set_option maxHeartbeats 2000000 in
theorem cll_ok (hx : p.tables.exec = Jvm.exec) (hb : c.code = cc) {nL : Nat} (hml : c.maxLocals = nL) (hown : s.vm.findClass own = some m.cls) (hts : ∀ w ∈ Ts, w.before args s = true) (hK : va_K D cl (tysA cA) s) (hN : NOK s) (hA : ∀ q, s.heap.size ≤ q → A q) (hcs : cs0 ≤ R.cells) (hss : ss0 ≤ R.slots) (hgood : ∀ w ∈ Ts, GoodIn Ts (w :: Ts)) {k : Con} (hv : Vld l cl Ts k) {i : Nat} {b : Bool} (hC : COK own cl Ts i b k) {a : AS} {σ : List Nat} {L : List AS}
    (hd : decode cc a.1 = .ok (if b then .invokestatic i else .invokevirtual i, 3)) (h : cll (R.frames, R.locals) a k σ = some L) (hL : ∀ x ∈ L, WA (WW p l e R s m args below meth c cs0 ss0 Q) m nL D cl A s.heap V cA es0 g0 x) : WA (WW p l e R s m args below meth c cs0 ss0 Q) m nL D cl A s.heap V cA es0 g0 a := by
  intro g lv sv es ls H locs h0 hG hlv hl hs hH
  unfold cll at h
  split at h
  · rename_i hc0
    obtain ⟨hn1, hnd, ⟨hsum, hall⟩, hfr, hlo⟩ := hc0
    split at h
    · cases h
    · rename_i cells hce
      split at h
      · rename_i hm
        simp only [Bool.and_eq_true, decide_eq_true_eq] at hm
        obtain ⟨hm1, hm2, hm3⟩ := hm
        obtain ⟨hz1, hz2⟩ := zf2_take (n := k.2.2.1.1.length) hs
        have hvs := zf2_rev hz1
        generalize hvse : (sv.take k.2.2.1.1.length).reverse = vs at hvs
        generalize hrse : sv.drop k.2.2.1.1.length = rs at hz2
        obtain ⟨ec, hec, hzc0⟩ := gAll_zf hH.1 hce
        have hzc : zf2 (relC g V cA) (cells.map Prod.snd) ec := zf2_map hzc0
        obtain ⟨ac, hac0⟩ := gAll_len (m := V.2) hH.2.2.2.2.2 hec
        have hac : ∀ (r j : Nat), σ[r]? = some j → ac[r]? = V.2[j]? := fun r j hj => ((gAll_ok hac0).2 r j hj).1
        have hsl : σ.length = ac.length := (gAll_ok hac0).1
        have hecl : ec.length = ac.length := by rw [← (gAll_ok hec).1]; exact hsl
        have hlen1 : k.2.2.1.1.length = vs.length := (mtc_len hm1).trans (zf2_len hvs)
        obtain ⟨k1, k1g⟩ := mtc_ok hG hac (va := vs ++ ec.flatMap fldE) (ga := gcf (k.2.2.1.1 ++ k.2.2.1.2.2.flatMap fldA) (vs ++ ec.flatMap fldE)) (pre := []) (post := ec.flatMap fldE) (pg := []) (qg := gcf (k.2.2.1.2.2.flatMap fldA) (ec.flatMap fldE)) hvs hm1 (by simp) (by rw [gcf_app hlen1]; simp) rfl
        obtain ⟨k2, k2l, k2g⟩ := mtC_ok hG hac (va := vs ++ ec.flatMap fldE) (ga := gcf (k.2.2.1.1 ++ k.2.2.1.2.2.flatMap fldA) (vs ++ ec.flatMap fldE)) (pre := vs) (pg := gcf k.2.2.1.1 vs) hzc (by rw [← hlen1]; exact hm2) rfl (gcf_app hlen1) (gcf_len hlen1)
        have hcvl : (k.2.2.1.1 ++ k.2.2.1.2.2.flatMap fldA).length = (vs ++ ec.flatMap fldE).length := by rw [List.length_append, List.length_append, hlen1, k2l]
        have hGc : GS k.2.2.1.2.1 (gcf (k.2.2.1.1 ++ k.2.2.1.2.2.flatMap fldA) (vs ++ ec.flatMap fldE)) := by
          refine zf2_of (by rw [hm3, gcf_len hcvl, hcvl]) (fun j r z hr hz => ?_)
          rw [gcf_app hlen1] at hz
          by_cases hlt : j < vs.length
          · rw [List.getElem?_append_left (by rw [gcf_len hlen1]; exact hlt)] at hz
            obtain ⟨r', e1, e2⟩ := k1g j z hz
            simp only [List.length_nil, Nat.zero_add] at e1
            rw [hr] at e1; cases e1; exact e2
          · rw [List.getElem?_append_right (by rw [gcf_len hlen1]; omega), gcf_len hlen1] at hz
            obtain ⟨r', e1, e2⟩ := k2g _ z hz
            rw [show vs.length + (j - vs.length) = j by omega] at e1
            rw [hr] at e1; cases e1; exact e2
        have hM := hv D cA _ (vs ++ ec.flatMap fldE) ac ec vs H.size hGc k1 k2 hecl
        have hsub := zw_sub hac0 hec
        have hPs := va_P_sub hH.2.2.1 hsub
        have hDs := hH.2.2.2.1.sub σ hnd hsub
        have hFc := va_free hH.2.2.2.1 hH.2.2.2.2.1 hA σ hsub
        obtain ⟨c1, c2, c3, c4, c5, c6⟩ := hC
        have hblind : FrameBlind (PcC D cl cA vs ac ec H.size) := fun a' U g' mk q => by
          obtain ⟨q0, q1, qP, qK, qD, qN⟩ := q
          exact ⟨q0, q1, qP, va_K.moved (u := U) (U := U.calling g' mk a') (Vm.Alike.refl U.vm) qK, qD, NOK_same rfl qN⟩
        have hpre : ∀ U : State, U.heap = H → s.WarmedH U.vm → PcC D cl cA vs ac ec H.size vs.toArray U := fun U hU hW => ⟨rfl, by rw [hU], by rw [hU]; exact hPs, va_K.moved hW.alike hK, hDs.weaken (fun _ _ _ _ => trivial), NOK_warm hW hN⟩
        have hroom : 2 * (F0 m a.1 ls rs).monitorRoom + (rs.map fun v => v.category).sum ≤ 8 := lv_room (m := m) (pc := a.1) (ls := ls) (rest := rs) (st := rs) (by rw [cat_sum hz2 hall]; exact hsum)
        have hsv : sv = vs.reverse ++ rs := by rw [← hvse, ← hrse, List.reverse_reverse, List.take_append_drop]
        have hrun : va_Run p l e R s m args below meth c H locs cs0 ss0 0 0 (F0 m a.1 ls sv) rs (fun st oc t => OutC D cl cA k.2.2.2 (gcf (k.2.2.1.1 ++ k.2.2.1.2.2.flatMap fldA) (vs ++ ec.flatMap fldE)) (vs ++ ec.flatMap fldE) ac ec oc t ∧ va_F (va_A (zw ac ec) H.size) st t) (va_A (zw ac ec) H.size) := by
          cases b with
          | true =>
            obtain ⟨d1, d2⟩ := c5 rfl
            exact va_runS (As := vs) (rest := rs) ⟨hx, hb, hml, hown, hts⟩ hM ⟨callB_of k.2.2.1.1.length hts (hgood _ c1) rfl rfl rfl (hts _ c3) (hts _ c2) ⟨c4.1, c4.2, d2⟩ ⟨hfr, hlo⟩, hts _ d1⟩ ⟨hblind, hpre⟩ rfl hlen1.symm hlv.1 hsv hroom hd ⟨hcs, hss⟩
          | false =>
            obtain ⟨d1, d2, ⟨as, d3, d4⟩, ci, fs, F, N, d5, d6⟩ := c6 rfl
            rw [d3] at k1
            obtain ⟨v0, As, rfl, k3, k4⟩ := zf2_cons k1
            obtain ⟨r, k5, k6⟩ := k3
            subst k6
            obtain ⟨e0, k7, k8⟩ := zf2_get k2 d5
            obtain ⟨fv, rfl, k9⟩ := relC_obj k8
            have hrec := va_recv hK hPs d6 (zw_get (k := 0) k5 k7)
            exact va_runV (As := As) (rest := rs) ⟨hx, hb, hml, hown, hts⟩ hM ⟨callB_of as.length hts (hgood _ c1) rfl rfl rfl (hts _ c3) (hts _ c2) ⟨c4.1, c4.2, d4⟩ ⟨hfr, hlo⟩, hts _ d1, hts _ d2⟩ ⟨hblind, hrec, hpre⟩ rfl (by have := zf2_len k4; omega) hlv.1 (by show sv = _; rw [hsv]; simp) hroom hd ⟨hcs, hss⟩
        refine my_call (A0 := A) hrun hH.2.2.2.2.1 (fun q _ hq => hFc q hq) hFc (fun v t H1 locs1 ht hO hsz hk hS1 => ?_)
        obtain ⟨o, ho, es', hret, hGo, hzo, hkp, hPo, hel⟩ := hO
        rw [ht] at hPo
        obtain ⟨L', hL', hsubL⟩ := cOuts_mem h ho
        have hxv : zf2 (gam g V) ((a.2.2.1.take k.2.2.1.1.length).reverse ++ (cells.map Prod.snd).flatMap fldA) (vs ++ ec.flatMap fldE) := zf2_apps hvs (zf2_fld hzc)
        unfold cOut at hL'
        split at hL'
        · rename_i hol
          split at hL'
          · cases hL'
          · rename_i cs hcs
            obtain ⟨t1, t2, t3⟩ := trH_ok hxv hac hsl hzo hzc0 hkp hcs
            obtain ⟨G', r1, r2⟩ := rfn_ok hG hxv hGo hcvl
            rw [r1] at hL'
            dsimp only at hL'
            have hJ := HS_join (es' := es') hH hnd hce hec hac0 t1 t2 (hel) t3 hk hPo hS1
            split at hL'
            · rename_i h9
              cases hL'
              have hvn : v = none := by
                rcases hret with ⟨-, q2⟩ | ⟨q1, -⟩
                · cases q2; rfl
                · exact absurd h9 q1
              subst hvn
              exact hL _ (hsubL _ (List.mem_singleton.mpr rfl)) g lv _ _ ls H1 locs1 h0 r2 hlv hl (by simpa using hz2) hJ
            · rename_i h9
              split at hL'
              · cases hL'
              · rename_i r hr
                split at hL'
                · cases hL'
                · rename_i q hq
                  cases hL'
                  have hvs2 : ∃ w, v = some w ∧ gam (gcf (k.2.2.1.1 ++ k.2.2.1.2.2.flatMap fldA) (vs ++ ec.flatMap fldE)) (vs ++ ec.flatMap fldE, ac) o.1 w := by
                    rcases hret with ⟨q1, -⟩ | ⟨-, w, q2, q3⟩
                    · exact absurd q1 h9
                    · cases q2; exact ⟨w, rfl, q3⟩
                  obtain ⟨w, rfl, hw⟩ := hvs2
                  have hw2 := trV_ok hxv hac hsl hw hr
                  obtain ⟨g', x1, x2, x3⟩ := nam_ok r2 hw2 hq
                  exact hL _ (hsubL _ (List.mem_singleton.mpr rfl)) g' lv _ _ ls H1 locs1 (gxt_tr h0 x1) x2 hlv (loc_ext x1 hl) ⟨x3, st_ext x1 hz2⟩ (HS_ext x1 hJ)
        · cases hL'
      · cases h
  · cases h
end CLL
end
section
/-! ===== a whole method ===== -/
/-- System.arraycopy of a whole row of ints -/
def acp (R : Nat × Nat) (a : AS) : Option (List AS) := match a.2.2.1 with
  | n :: dp :: y :: sp :: x :: st => if x.1 = 6 ∧ y.1 = 6 ∧ 1 ≤ R.1 ∧ (st.map catA).sum + (nativeFrameWords "java/lang/System" "arraycopy" 5 + 11) ≤ R.2 ∧ st.all (fun q => decide (q.1 ≠ 8)) = true then (match a.2.2.2.2[x.2.1.toNat]?, a.2.2.2.2[y.2.1.toNat]?, ivI a.2.2.2.1 n, ivI a.2.2.2.1 dp, ivI a.2.2.2.1 sp with
    | some (_, .inr (1, s1)), some (_, .inr (1, s2)), some qn, some qd, some qs => if qn.1 = (tot s1 : Int) ∧ qn.2 = (tot s1 : Int) ∧ tot s1 = tot s2 ∧ qd.1 = 0 ∧ qd.2 = 0 ∧ qs.1 = 0 ∧ qs.2 = 0 then some [(a.1 + 3, a.2.1, st, a.2.2.2.1, a.2.2.2.2.set y.2.1.toNat (true, .inr (1, s1)))] else none
    | _, _, _, _, _ => none) else none
  | _ => none
abbrev CTB : Type := List (Nat × Nat × Bool × Con × List Nat)
/-- the first contract for this place that fits -/
def trc (b : Bool) (i : Nat) (R : Nat × Nat) (a : AS) : CTB → Option (List AS)
  | [] => none
  | q :: r => if q.1 = a.1 ∧ q.2.1 = i ∧ q.2.2.1 = b then (match cll R a q.2.2.2.1 q.2.2.2.2 with
    | some L => some L
    | none => trc b i R a r) else trc b i R a r
theorem trc_mem {b : Bool} {i : Nat} {R : Nat × Nat} {a : AS} : ∀ {CT : CTB} {L : List AS}, trc b i R a CT = some L → ∃ q ∈ CT, q.2.1 = i ∧ q.2.2.1 = b ∧ cll R a q.2.2.2.1 q.2.2.2.2 = some L
  | [], _, h => by cases h
  | q :: r, L, h => by
    unfold trc at h
    split at h
    · rename_i hc
      split at h
      · rename_i L' hL
        cases h
        exact ⟨q, List.mem_cons_self, hc.2.1, hc.2.2, hL⟩
      · obtain ⟨q', h1, h2⟩ := trc_mem h
        exact ⟨q', List.mem_cons_of_mem _ h1, h2⟩
    · obtain ⟨q', h1, h2⟩ := trc_mem h
      exact ⟨q', List.mem_cons_of_mem _ h1, h2⟩
def stpC (BT : List (Nat × Nat)) (CT : CTB) (R : Nat × Nat) (ins : ClassFile.Instr) (len : Nat) (a : AS) : Option (List AS) := match ins with
  | .invokevirtual i => if len = 3 then trc false i R a CT else none
  | .invokestatic i => if len = 3 then (match look BT i with
    | some 1 => acp R a
    | _ => trc true i R a CT) else none
  | _ => none
def stp (T : TB) (BT : List (Nat × Nat)) (CT : CTB) (R : Nat × Nat) (ins : ClassFile.Instr) (len : Nat) (a : AS) : Option (List AS) := match stpA T ins len a with
  | some L => some L
  | none => match stpH T ins len a with
    | some L => some L
    | none => stpC BT CT R ins len a
def subG : GI → GI → Bool
  | _, [] => true
  | p :: ps, q :: qs => decide (q.1 ≤ p.1 ∧ p.2 ≤ q.2) && subG ps qs
  | [], _ :: _ => false
def subH (n : Nat) (G : GI) : HP → HP → Bool
  | [], [] => true
  | x :: xs, y :: ys => (if y.1 = true then subC n G x.2 y.2 else decide (x.1 = false)) && subH n G xs ys
  | _, _ => false
def subO (n : Nat) (a : AS) (v : AV) (o : AV × GI × HP) : Bool := (if v.1 = 9 then decide (o.1.1 = 9) else decide (o.1.1 ≠ 9) && subV n a.2.2.2.1 v o.1) && (decide (o.2.1.length = n) && (subG a.2.2.2.1 o.2.1 && subH n a.2.2.2.1 a.2.2.2.2 o.2.2))
def fin (ret : Option FieldType) (n : Nat) (outs : List (AV × GI × HP)) (ins : ClassFile.Instr) (len : Nat) (a : AS) : Bool := match ins with
  | .ireturn => match a.2.2.1 with
    | [v] => decide (len = 1 ∧ v.1 ≤ 2) && ((decide (ret = some .int) || (decide (ret = some .boolean) && (match ivI a.2.2.2.1 v with
      | some q => decide (0 ≤ q.1 ∧ q.2 ≤ 1)
      | none => false))) && outs.any (subO n a v))
    | _ => false
  | .lreturn => match a.2.2.1 with
    | [v] => decide (len = 1 ∧ 3 ≤ v.1 ∧ v.1 ≤ 5 ∧ ret = some .long) && outs.any (subO n a v)
    | _ => false
  | .return_ => match a.2.2.1 with
    | [] => decide (len = 1 ∧ ret = none) && outs.any (subO n a (9, 0, 0))
    | _ => false
  | _ => false
def run (T : TB) (BT : List (Nat × Nat)) (CT : CTB) (R : Nat × Nat) (ret : Option FieldType) (n : Nat) (outs : List (AV × GI × HP)) : Nat → AS → Bool
  | 0, _ => false
  | f + 1, a => match look T.1 a.1 with
    | none => false
    | some q => fin ret n outs q.1 q.2 a || (match stp T BT CT R q.1 q.2 a with
      | some L => L.all (run T BT CT R ret n outs f)
      | none => false)
def BOK (own : String) (Ts : List Jvm.Cond) (BT : List (Nat × Nat)) : Prop := ∀ q ∈ BT, q.2 = 1 → Jvm.Cond.methodLink own q.1 arraycopyName ∈ Ts ∧ Jvm.Cond.native arraycopyName ∈ Ts ∧ Jvm.Cond.static arraycopyName ∈ Ts ∧ Jvm.Cond.initialized "java/lang/System" ∈ Ts
def CTOK (l : Launch) (own : String) (cl : List vw_C) (Ts : List Jvm.Cond) (CT : CTB) : Prop := ∀ q ∈ CT, Vld l cl Ts q.2.2.2.1 ∧ COK own cl Ts q.2.1 q.2.2.1 q.2.2.2.1
section RUN
variable {p : Program} {l : Launch} {e : Env} {R : Room} {s : State} {m : MethodId} {args : Array Value} {below : List Frame} {meth : Method} {c : Code} {cs0 ss0 : Nat} {Q : State → Prop} {cc : ByteArray} {own : String} {Ts : List Jvm.Cond} {D : va_G} {cl : List vw_C} {A : Nat → Prop} {V : EV} {cA : Nat → ClassId} {es0 : List va_E} {g0 : List Int}
theorem ae_int0 {q : Int × Int} {x : Int32} {z : Int} (h : inI q x.toInt) (h1 : q.1 = z) (h2 : q.2 = z) : x.toInt = z := by unfold inI at h; omega
theorem acp_ok (hx : p.tables.exec = Jvm.exec) (hb : c.code = cc) {nL : Nat} (hml : c.maxLocals = nL) (hown : s.vm.findClass own = some m.cls) (hts : ∀ w ∈ Ts, w.before args s = true) (hK : va_K D cl (tysA cA) s) {i : Nat} (hB : Jvm.Cond.methodLink own i arraycopyName ∈ Ts ∧ Jvm.Cond.native arraycopyName ∈ Ts ∧ Jvm.Cond.static arraycopyName ∈ Ts ∧ Jvm.Cond.initialized "java/lang/System" ∈ Ts) {a : AS} {L : List AS}
    (hd : decode cc a.1 = .ok (.invokestatic i, 3)) (h : acp (R.frames, R.locals) a = some L) (hL : ∀ x ∈ L, WA (WW p l e R s m args below meth c cs0 ss0 Q) m nL D cl A s.heap V cA es0 g0 x) : WA (WW p l e R s m args below meth c cs0 ss0 Q) m nL D cl A s.heap V cA es0 g0 a := by
  intro g lv sv es ls H locs h0 hG hlv hl hs hH
  unfold acp at h
  split at h
  · rename_i n dp y sp x st hst
    split at h
    · rename_i hc0
      obtain ⟨ht1, ht2, hf1, hf2, hall⟩ := hc0
      split at h
      · rename_i f1 s1 f2 s2 qn qd qs hc1 hc2 hqn hqd hqs
        split at h
        · rename_i hc
          cases h
          rw [hst] at hs
          obtain ⟨w1, sv1, rfl, g1, hs1⟩ := zf2_cons hs
          obtain ⟨w2, sv2, rfl, g2, hs2⟩ := zf2_cons hs1
          obtain ⟨w3, sv3, rfl, g3, hs3⟩ := zf2_cons hs2
          obtain ⟨w4, sv4, rfl, g4, hs4⟩ := zf2_cons hs3
          obtain ⟨w5, sv5, rfl, g5, hs5⟩ := zf2_cons hs4
          obtain ⟨xn, rfl, en⟩ := ivI_ok hG g1 hqn
          obtain ⟨xd, rfl, ed⟩ := ivI_ok hG g2 hqd
          obtain ⟨xs, rfl, exs⟩ := ivI_ok hG g4 hqs
          have en' := ae_int0 en hc.1 hc.2.1
          have ed' := ae_int0 ed hc.2.2.2.1 hc.2.2.2.2.1
          have es' := ae_int0 exs hc.2.2.2.2.2.1 hc.2.2.2.2.2.2
          obtain ⟨a1, n1, rfl, b1, b2, b3, b4⟩ := HS_get hH g5 ht1 hc1
          obtain ⟨a2, n2, rfl, d1, d2, d3, d4⟩ := HS_get hH g3 ht2 hc2
          obtain ⟨ff, rfl, k1, k2⟩ := relC_arI b3 (Or.inr (Or.inl rfl))
          obtain ⟨fg, rfl, k3, k4⟩ := relC_arI d3 (Or.inr (Or.inl rfl))
          have zn : xn.toNatClampNeg = tot s1 := by rw [ae_cl, en']; omega
          have zd : xd.toNatClampNeg = 0 := by rw [ae_cl, ed']; rfl
          have zs : xs.toNatClampNeg = 0 := by rw [ae_cl, es']; rfl
          refine va_copyi hx hb (hml.trans hlv.1.symm) hown (hts _ hB.1) (hts _ hB.2.1) (hts _ hB.2.2.1) (hts _ hB.2.2.2) hK hH.2.2.1 hH.2.2.2.1 hH.2.2.2.2.1 _ _ 1 1 b4 d4 rfl rfl rfl (by rw [ae_lt0, es']; omega) (by rw [ae_lt0, ed']; omega) (by rw [ae_lt0, en']; omega) (by rw [zn, zs]; omega) (by rw [zn, zd]; omega) (fun _ _ => rfl) hf1 (by rw [cat_sum hs5 hall]; exact hf2) hd (fun H1 locs1 p1 e1 s1' => ?_)
          refine hL _ (List.mem_singleton.mpr rfl) g lv _ _ ls H1 locs1 h0 hG hlv hl hs5 (HS_put hH d1 ?_ p1 e1 s1')
          refine ⟨Or.inr (Or.inl rfl), rfl, hc.2.2.1.symm, by rw [← hc.2.2.1]; exact k1, fun j bb hbb => ?_⟩
          have hj : j < tot s1 := lk_lt hbb
          rw [zs, zd, zn, pk_cpy_in (sp := 0) (dp := 0) (n := tot s1) (Nat.zero_le j) (by omega)]
          simpa using k2 j bb hbb
        · cases h
      · cases h
    · cases h
  · cases h
theorem stpC_ok (hx : p.tables.exec = Jvm.exec) (hb : c.code = cc) {nL : Nat} (hml : c.maxLocals = nL) (hown : s.vm.findClass own = some m.cls) (hts : ∀ w ∈ Ts, w.before args s = true) (hK : va_K D cl (tysA cA) s) (hN : NOK s) (hA : ∀ q, s.heap.size ≤ q → A q) (hcs : cs0 ≤ R.cells) (hss : ss0 ≤ R.slots) (hgood : ∀ w ∈ Ts, GoodIn Ts (w :: Ts)) {BT : List (Nat × Nat)} (hBT : BOK own Ts BT) {CT : CTB} (hCT : CTOK l own cl Ts CT) {a : AS} {ins : ClassFile.Instr} {len : Nat} {L : List AS}
    (hd : decode cc a.1 = .ok (ins, len)) (h : stpC BT CT (R.frames, R.locals) ins len a = some L) (hL : ∀ x ∈ L, WA (WW p l e R s m args below meth c cs0 ss0 Q) m nL D cl A s.heap V cA es0 g0 x) : WA (WW p l e R s m args below meth c cs0 ss0 Q) m nL D cl A s.heap V cA es0 g0 a := by
  unfold stpC at h
  split at h
  · split at h
    · rename_i i hc
      subst hc
      obtain ⟨q, q1, q2, q3, q4⟩ := trc_mem h
      obtain ⟨v1, v2⟩ := hCT _ q1
      rw [q2, q3] at v2
      exact cll_ok hx hb hml hown hts hK hN hA hcs hss hgood v1 v2 hd q4 hL
    · cases h
  · split at h
    · rename_i i hc
      subst hc
      split at h
      · rename_i hlk2
        exact acp_ok hx hb hml hown hts hK (hBT _ (look_mem hlk2) rfl) hd h hL
      · obtain ⟨q, q1, q2, q3, q4⟩ := trc_mem h
        obtain ⟨v1, v2⟩ := hCT _ q1
        rw [q2, q3] at v2
        exact cll_ok hx hb hml hown hts hK hN hA hcs hss hgood v1 v2 hd q4 hL
    · cases h
  · cases h
theorem subG_ok {g0 : List Int} : ∀ {G G' : GI} {g : List Int}, GS G g → gxt g0 g → G'.length = g0.length → subG G G' = true → GS G' g0 := by
  intro G G' g hG hx hl hs
  obtain ⟨ex, rfl⟩ := hx
  induction g0 generalizing G G' with
  | nil => cases G' with
    | nil => trivial
    | cons _ _ => simp at hl
  | cons z zs ih => cases G' with
    | nil => simp at hl
    | cons q qs => cases G with
      | nil => exact hG.elim
      | cons r rs =>
        simp only [subG, Bool.and_eq_true, decide_eq_true_eq] at hs
        have h1 := hG.1
        unfold inI at h1
        exact ⟨by unfold inI; omega, ih (G := rs) (G' := qs) (by simpa using hl) hs.2 hG.2⟩
theorem subH_ok {G : GI} {g g0 : List Int} {V : EV} {cA : Nat → ClassId} (hG : GS G g) (hx : gxt g0 g) : ∀ {xs ys : HP} {es : List va_E}, zf2 (fun (x : Bool × AC) (y : va_E) => relC g V cA x.2 y) xs es → subH g0.length G xs ys = true → zf2 (relK g0 V cA) ys es ∧ ∀ (j : Nat) (q : Bool × AC), ys[j]? = some q → q.1 = false → ∃ q', xs[j]? = some q' ∧ q'.1 = false
  | [], [], [], _, _ => ⟨trivial, fun j q hj => by simp at hj⟩
  | [], [], _ :: _, h, _ => h.elim
  | [], _ :: _, _, _, h => by simp [subH] at h
  | _ :: _, [], _, _, h => by simp [subH] at h
  | _ :: _, _ :: _, [], h, _ => h.elim
  | x :: xs, y :: ys, en :: es, h, hs => by
    simp only [subH, Bool.and_eq_true] at hs
    obtain ⟨h1, h2⟩ := hs
    have ih := subH_ok hG hx (xs := xs) (ys := ys) (es := es) h.2 h2
    refine ⟨⟨fun hy => ?_, ih.1⟩, fun j q hj hq => ?_⟩
    · rw [if_pos hy] at h1
      exact subC_ok hG hx h.1 h1
    · cases j with
      | zero =>
        simp at hj
        subst hj
        rw [if_neg (by rw [hq]; decide)] at h1
        exact ⟨x, rfl, of_decide_eq_true h1⟩
      | succ j => simpa using ih.2 j q (by simpa using hj) hq
theorem subO_ok {D : va_G} {cl : List vw_C} {H0 : Heap} {gv : List Value} {ad : List Nat} {outs : List (AV × GI × HP)} {a : AS} {v : AV} (h : outs.any (subO g0.length a v) = true) {g : List Int} {es : List va_E} {H : Heap} {locs : List Loc} {oc : Outcome} (hG : GS a.2.2.2.1 g) (hx : gxt g0 g) (hH : HS D cl A H0 (gv, ad) cA es0 a.2.2.2.2 g es H locs) (hoc : (v.1 = 9 ∧ oc = .returned none) ∨ (v.1 ≠ 9 ∧ ∃ w, oc = .returned (some w) ∧ gam g (gv, ad) v w)) {t : State} (ht : t.heap = H) : OutC D cl cA outs g0 gv ad es0 oc t := by
  obtain ⟨o, ho, h1⟩ := List.any_eq_true.mp h
  unfold subO at h1
  simp only [Bool.and_eq_true, decide_eq_true_eq] at h1
  obtain ⟨h1, h2, h3, h4⟩ := h1
  obtain ⟨k1, k2⟩ := subH_ok hG hx hH.1 h4
  refine ⟨o, ho, es, ?_, subG_ok hG hx h2 h3, k1, fun j q hj hq => ?_, by rw [ht]; exact hH.2.2.1, hH.2.2.2.2.2⟩
  · rcases hoc with ⟨e1, e2⟩ | ⟨e1, w, e2, e3⟩
    · rw [if_pos e1] at h1
      exact Or.inl ⟨of_decide_eq_true h1, e2⟩
    · rw [if_neg e1] at h1
      simp only [Bool.and_eq_true, decide_eq_true_eq] at h1
      exact Or.inr ⟨h1.1, w, e2, subV_ok hG hx e3 h1.2⟩
  · obtain ⟨q', e1, e2⟩ := k2 j q hj hq
    exact hH.2.1 j q' e1 e2
theorem fin_ok (hx : p.tables.exec = Jvm.exec) (hb : c.code = cc) {nL : Nat} {ret : Option FieldType} (hr : meth.sig.returnType = ret) (hlocks : meth.locks = false) {gv : List Value} {ad : List Nat} {outs : List (AV × GI × HP)} {a : AS} {ins : ClassFile.Instr} {len : Nat} (hd : decode cc a.1 = .ok (ins, len)) (h : fin ret g0.length outs ins len a = true) :
    WA (WW p l e R s m args below meth c 0 0 (MQ below (QcC D cl cA outs g0 gv ad es0 s.heap.size) args s 0 0 (va_A (zw ad es0) s.heap.size))) m nL D cl (va_A (zw ad es0) s.heap.size) s.heap (gv, ad) cA es0 g0 a := by
  intro g lv sv es ls H locs h0 hG hlv hl hs hH
  unfold fin at h
  split at h
  · split at h
    · rename_i v hst
      simp only [Bool.and_eq_true, decide_eq_true_eq] at h
      obtain ⟨⟨rfl, h1⟩, h2, h3⟩ := h
      rw [hst] at hs
      obtain ⟨w, sv1, rfl, g1, hs1⟩ := zf2_cons hs
      cases sv1 with
      | cons _ _ => exact hs1.elim
      | nil =>
        obtain ⟨x, rfl⟩ := gam_int g1 h1
        have hout : ∀ t : State, t.heap = H → s.WarmedH t.vm → QcC D cl cA outs g0 gv ad es0 s.heap.size args s (.returned (some (.int x))) t := fun t ht _ => ⟨subO_ok h3 hG h0 hH (Or.inr ⟨by omega, _, rfl, g1⟩) ht, hH.2.2.2.2.1.F ht⟩
        simp only [Bool.or_eq_true, Bool.and_eq_true, decide_eq_true_eq] at h2
        rcases h2 with rfl | ⟨rfl, h2⟩
        · exact W.iret hx hb hr hout hH.2.2.2.2.1.2.2 hd hlocks
        · split at h2
          · rename_i q hq
            have h2 := of_decide_eq_true h2
            obtain ⟨y, e1, e2⟩ := ivI_ok hG g1 hq
            cases e1
            unfold inI at e2
            rcases ae_b01 (x := x) (by omega) (by omega) with rfl | rfl
            · exact W.zret hx hb hr rfl hout hH.2.2.2.2.1.2.2 hd hlocks
            · exact W.zret hx hb hr rfl hout hH.2.2.2.2.1.2.2 hd hlocks
          · cases h2
    · cases h
  · split at h
    · rename_i v hst
      simp only [Bool.and_eq_true, decide_eq_true_eq] at h
      obtain ⟨⟨rfl, h1, h1', rfl⟩, h3⟩ := h
      rw [hst] at hs
      obtain ⟨w, sv1, rfl, g1, hs1⟩ := zf2_cons hs
      cases sv1 with
      | cons _ _ => exact hs1.elim
      | nil =>
        obtain ⟨x, rfl⟩ := gam_long g1 ⟨h1, h1'⟩
        have hout : ∀ t : State, t.heap = H → s.WarmedH t.vm → QcC D cl cA outs g0 gv ad es0 s.heap.size args s (.returned (some (.long x))) t := fun t ht _ => ⟨subO_ok h3 hG h0 hH (Or.inr ⟨by omega, _, rfl, g1⟩) ht, hH.2.2.2.2.1.F ht⟩
        exact W.lret hx hb hr hout hH.2.2.2.2.1.2.2 hd hlocks
    · cases h
  · split at h
    · rename_i hst
      simp only [Bool.and_eq_true, decide_eq_true_eq] at h
      obtain ⟨⟨rfl, rfl⟩, h3⟩ := h
      rw [hst] at hs
      cases sv with
      | cons _ _ => exact hs.elim
      | nil =>
        have hout : ∀ t : State, t.heap = H → s.WarmedH t.vm → QcC D cl cA outs g0 gv ad es0 s.heap.size args s (.returned none) t := fun t ht _ => ⟨subO_ok h3 hG h0 hH (Or.inl ⟨rfl, rfl⟩) ht, hH.2.2.2.2.1.F ht⟩
        exact W.vret hx hb hr hout hH.2.2.2.2.1.2.2 hd hlocks
    · cases h
  · cases h
end RUN
end
section
/-! ===== from a run to a contract ===== -/
def lva : Nat → List AV → List (Nat × AV)
  | _, [] => []
  | i, a :: r => (i, a) :: lva (if catA a = 2 then i + 2 else i + 1) r
theorem lva_ok {g : List Int} {V : EV} : ∀ {as : List AV} {vs : List Value} {i : Nat}, zf2 (gam g V) as vs → as.all (fun q => decide (q.1 ≠ 8)) = true → zf2 (locR g V) (lva i as) (lv_args i vs)
  | [], [], _, _, _ => trivial
  | [], _ :: _, _, h, _ => h.elim
  | _ :: _, [], _, h, _ => h.elim
  | a :: as, v :: vs, i, h, ha => by
    simp only [List.all_cons, Bool.and_eq_true, decide_eq_true_eq] at ha
    simp only [lva, lv_args]
    rw [← gam_cat h.1 ha.1]
    exact ⟨⟨rfl, h.1, ha.1⟩, lva_ok h.2 ha.2⟩
theorem sl_len {g : List Int} {V : EV} : ∀ {as : List AV} {vs : List Value}, zf2 (gam g V) as vs → as.all (fun q => decide (q.1 ≠ 8)) = true → (lg_sl vs).length = (as.map catA).sum
  | [], [], _, _ => rfl
  | [], _ :: _, h, _ => h.elim
  | _ :: _, [], h, _ => h.elim
  | a :: as, v :: vs, h, ha => by
    simp only [List.all_cons, Bool.and_eq_true, decide_eq_true_eq] at ha
    have ih := sl_len h.2 ha.2
    have hc := gam_cat h.1 ha.1
    unfold lg_sl at ih ⊢
    simp only [List.flatMap_cons, List.length_append, List.map_cons, List.sum_cons, ih]
    rcases lv_cat v with h1 | h1
    · rw [if_neg (by omega)]
      simp only [List.length_cons, List.length_nil]; omega
    · rw [if_pos h1]
      simp only [List.length_cons, List.length_nil]; omega
section MTH
variable {p : Program} {l : Launch} {e : Env} {R : Room} {s : State} {m : MethodId} {args : Array Value} {below : List Frame} {meth : Method} {c : Code} {cc : ByteArray} {own : String} {Ts : List Jvm.Cond} {D : va_G} {cl : List vw_C} {cA : Nat → ClassId} {es0 : List va_E} {g0 : List Int}
theorem run_ok (hx : p.tables.exec = Jvm.exec) (hb : c.code = cc) {T : TB} (hml : c.maxLocals = T.2.1) (hown : s.vm.findClass own = some m.cls) (hts : ∀ w ∈ Ts, w.before args s = true) (hK : va_K D cl (tysA cA) s) (hN : NOK s) (hgood : ∀ w ∈ Ts, GoodIn Ts (w :: Ts)) (hT : TOK own cl Ts cc T) {BT : List (Nat × Nat)} (hBT : BOK own Ts BT) {CT : CTB} (hCT : CTOK l own cl Ts CT) {ret : Option FieldType} (hr : meth.sig.returnType = ret) (hlocks : meth.locks = false) {gv : List Value} {ad : List Nat} {outs : List (AV × GI × HP)} : ∀ (f : Nat) (a : AS), run T BT CT (R.frames, R.locals) ret g0.length outs f a = true →
    WA (WW p l e R s m args below meth c 0 0 (MQ below (QcC D cl cA outs g0 gv ad es0 s.heap.size) args s 0 0 (va_A (zw ad es0) s.heap.size))) m T.2.1 D cl (va_A (zw ad es0) s.heap.size) s.heap (gv, ad) cA es0 g0 a := by
  intro f
  induction f with
  | zero => intro a h; simp [run] at h
  | succ f ih =>
    intro a h
    unfold run at h
    split at h
    · cases h
    · rename_i q hq
      have hd : decode cc a.1 = .ok (q.1, q.2) := hT.1 (a.1, q) (look_mem hq)
      simp only [Bool.or_eq_true] at h
      rcases h with h | h
      · exact fin_ok hx hb hr hlocks hd h
      · split at h
        · rename_i L hL
          have hall : ∀ b ∈ L, WA (WW p l e R s m args below meth c 0 0 (MQ below (QcC D cl cA outs g0 gv ad es0 s.heap.size) args s 0 0 (va_A (zw ad es0) s.heap.size))) m T.2.1 D cl (va_A (zw ad es0) s.heap.size) s.heap (gv, ad) cA es0 g0 b := fun b hb' => ih b (List.all_eq_true.mp h b hb')
          unfold stp at hL
          split at hL
          · rename_i L' h1
            cases hL
            exact stpA_ok hx hb hown hts hT hd h1 hall
          · split at hL
            · rename_i L' h1
              cases hL
              exact stpH_ok hx hb hown hts hK hT hd h1 hall
            · exact stpC_ok hx hb hml hown hts hK hN (fun q hq => Or.inr hq) (Nat.zero_le _) (Nat.zero_le _) hgood hBT hCT hd hL hall
        · cases h
end MTH
/-- the interpreter over a contract -/
def chk (T : TB) (BT : List (Nat × Nat)) (CT : CTB) (f : Nat) (k : Con) : Bool := k.2.2.1.1.all (fun q => decide (q.1 ≠ 8)) && (decide ((k.2.2.1.1.map catA).sum ≤ k.1.2.2.1) && (decide (T.2.1 = k.1.2.2.1) && run T BT CT k.2.1 k.1.2.2.2 k.2.2.1.2.1.length k.2.2.2 f (0, lva 0 k.2.2.1.1, [], k.2.2.1.2.1, k.2.2.1.2.2.map (fun c => (false, c)))))
theorem zf2_mapL {g : List Int} {V : EV} {cA : Nat → ClassId} : ∀ {cs : List AC} {es : List va_E}, zf2 (relC g V cA) cs es → zf2 (fun (x : Bool × AC) (y : va_E) => relC g V cA x.2 y) (cs.map (fun c => (false, c))) es
  | [], [], _ => trivial
  | [], _ :: _, h => h.elim
  | _ :: _, [], h => h.elim
  | _ :: cs, _ :: es, h => ⟨h.1, zf2_mapL (cs := cs) (es := es) h.2⟩
theorem con_ok {l : Launch} {cl : List vw_C} {Ts : List Jvm.Cond} (hgood : ∀ w ∈ Ts, GoodIn Ts (w :: Ts)) {k : Con} {T : TB} {BT : List (Nat × Nat)} {CT : CTB} {f : Nat} (hy : plainName k.1.1.cls = true) (hT : TOK k.1.1.cls cl Ts k.1.2.1 T) (hBT : BOK k.1.1.cls Ts BT) (hCT : CTOK l k.1.1.cls cl Ts CT) (h : chk T BT CT f k = true) : Vld l cl Ts k := by
  unfold chk at h
  simp only [Bool.and_eq_true, decide_eq_true_eq] at h
  obtain ⟨h1, h2, h3, h4⟩ := h
  intro D cA g gv ad es vs sz hG hvs hes hlen
  refine Met.ofW (cc := k.1.2.1) (maxL := k.1.2.2.1) (ret := k.1.2.2.2) hy rfl ?_
  intro p e s m args below meth c s₁ B hml hv
  obtain ⟨rfl, hsz, hP, hK, hD, hN⟩ := hv
  subst hsz
  have hts0 := atoms_spec (ws := .code k.1.1 k.1.2.1 k.1.2.2.1 k.1.2.2.2 :: Ts) B.pre
  have hts : ∀ w ∈ Ts, w.before vs.toArray s = true := fun w hw => hts0 w (List.mem_cons_of_mem _ hw)
  have hown : s.vm.findClass k.1.1.cls = some m.cls := findClass_of_methodNamed B.named
  have hlg : GS k.2.2.1.2.1 g := hG
  have hgl : g.length = k.2.2.1.2.1.length := (zf2_len hG).symm
  have hl := lv_entry vs (n := k.1.2.2.1) (by rw [sl_len hvs h1]; exact h2)
  rw [lg_entry_eq]
  generalize (lg_sl vs ++ List.replicate (k.1.2.2.1 - (lg_sl vs).length) Slot.unset).toArray = ls at hl ⊢
  rw [← hgl] at h4
  have hW := run_ok (l := l) (e := e) (R := rmC k) (below := below) (D := D) (cA := cA) (es0 := es) (g0 := g) (gv := gv) (ad := ad) B.exec B.bytes (hml.trans h3.symm) hown hts hK hN hgood hT hBT hCT B.returns B.notSynchronized f _ h4
  exact hW g (lv_args 0 vs) [] es ls s.heap [] gxt_rf hG (by rw [h3]; exact hl) (lva_ok hvs h1) trivial ⟨zf2_mapL hes, fun _ _ _ _ => rfl, hP, hD.self (sz := s.heap.size), va_S.rf, hlen⟩
end
section
/-! THE CLAIM OUT OF ONE WALK OF THE LAW'S BODY. Your part is whole_start (and what it stands on); all else here is the same for every law, but numbers. -/
def R_law : String := "RookHustingLaw"
def lw_P (b : Addr) (xs : List Int32) (args : Array Value) (s : State) : Prop := args = #[.ref b] ∧ s.IntsAt b xs ∧ xs.length ≤ 6 ∧ (Jvm.Cond.and given_1 narrow_1).before args s = true
def lw_Q (_ : Array Value) (s : State) (o : Outcome) (t : State) : Prop := o = .returned (some (.int 1)) ∧ Framed s o t [] 600000 7302250
def lw_Z (below : List Frame) (a : Array Value) (s : State) : State → Prop := fun t => ∃ o, t.status = .running ∧ Ended t below o ∧ lw_Q a s o t
/-- the law's own end, with 1 on the stack, nothing written that was there before, its room as the claim has it -/
theorem lw_ret {p : Program} {l : Launch} {e : Env} {s : State} {m : MethodId} {below : List Frame} {meth : Method} {c : Code} {b : Nat} (hx : p.tables.exec = Jvm.exec) (hb : c.code = code) (hr : meth.sig.returnType = ret) (hlocks : meth.locks = false) {pc : Nat} {H : Heap} {ls : Array Slot} (hdg : decode code pc = .ok (.ireturn, 1)) : W p l e room_1 s m #[Value.ref b] below meth c H [] 600000 7302250 (lw_Z below #[Value.ref b] s) (F0 m pc ls [.int 1]) := by
  intro T hT X
  obtain ⟨fs, hret, hrun, hended, hW, hframe⟩ := X.leave (v := some (.int 1)) (hlocks := hlocks) (fun h => by rw [hr] at h; cases h)
  have hmeth' : T.vm.method? m = some meth := X.method'
  refine ⟨T.setFrames fs, ?_, .returned (some (.int 1)), hrun, hended, rfl, ⟨_, rfl⟩, hW, hframe⟩
  jvm_step X.here [X.here.top, hx, hb, hdg, hmeth', hr, ret, narrow_b1]
  (try refine ⟨rfl, ?_⟩); (try refine ⟨rfl, ?_⟩)
  first | (intro acts; rw [hret _ acts rfl rfl rfl]) | rw [hret _ _ rfl rfl rfl]
  exact Steps.refl _
/-- what holds at the law's entry: the machine, the code, the tables' words (any of lw_tbl by 'hts w (by decide +kernel)'), the script of L ints xs at the cell b, what the Statement gives of the start (any of its parts by flat_of_before) -/
def lw_At (p : Program) (s : State) (m : MethodId) (meth : Method) (c : Code) (b L : Nat) (xs : Nat → Int32) : Prop :=
  p.tables.exec = Jvm.exec ∧ c.code = code ∧ meth.sig.returnType = ret ∧ c.maxLocals = 4 ∧ s.vm.findClass R_law = some m.cls ∧ (∀ w ∈ lw_tbl, w.before #[Value.ref b] s = true) ∧ va_X b L xs s s.heap ∧ b < s.heap.size ∧ meth.locks = false ∧ (Jvm.Cond.and given_1 narrow_1).before #[Value.ref b] s = true
end
section
/-! ===== the law's own run ===== -/
/-- the script: an element by its index, the length -/
def stpE (XS : List (AV × AV)) (LN : AV) (ins : ClassFile.Instr) (len : Nat) (a : AS) : Option (List AS) := match ins with
  | .aload_n k => if len = 1 then (match fnd a.2.1 k with
    | some v => if v.1 = 11 then some (psh a 1 (a.2.2.2.1, v)) else none
    | none => none) else none
  | .arraylength => if len = 1 then (match a.2.2.1 with
    | x :: st => if x = (11, 0, 0) then some [(a.1 + 1, a.2.1, LN :: st, a.2.2.2.1, a.2.2.2.2)] else none
    | _ => none) else none
  | .iaload => if len = 1 then (match a.2.2.1 with
    | i :: x :: st => if x = (11, 0, 0) then (match XS.lookup i with
      | some v => some [(a.1 + 1, a.2.1, v :: st, a.2.2.2.1, a.2.2.2.2)]
      | none => none) else none
    | _ => none) else none
  | _ => none
def finL (ins : ClassFile.Instr) (len : Nat) (a : AS) : Bool := match ins with
  | .ireturn => match a.2.2.1 with
    | [v] => decide (len = 1) && (match ivI a.2.2.2.1 v with
      | some q => decide (q.1 = 1 ∧ q.2 = 1)
      | none => false)
    | _ => false
  | _ => false
def runL (T : TB) (CT : CTB) (R : Nat × Nat) (XS : List (AV × AV)) (LN : AV) : Nat → AS → Bool
  | 0, _ => false
  | f + 1, a => match look T.1 a.1 with
    | none => false
    | some q => finL q.1 q.2 a || (match stpE XS LN q.1 q.2 a with
      | some L => L.all (runL T CT R XS LN f)
      | none => match stp T [] CT R q.1 q.2 a with
        | some L => L.all (runL T CT R XS LN f)
        | none => false)
theorem lkp_mem {β : Type} : ∀ {l : List (AV × β)} {i : AV} {b : β}, l.lookup i = some b → (i, b) ∈ l
  | [], _, _, h => by simp at h
  | (k, c) :: r, i, b, h => by
    rw [List.lookup_cons] at h
    split at h
    · rename_i hk
      cases h
      have : i = k := by simpa using hk
      subst this
      exact List.mem_cons_self
    · exact List.mem_cons_of_mem _ (lkp_mem h)
section LAWRUN
variable {p : Program} {l : Launch} {e : Env} {s : State} {m : MethodId} {below : List Frame} {meth : Method} {c : Code} {cs0 ss0 : Nat} {b : Nat} {Ts : List Jvm.Cond} {D : va_G} {cl : List vw_C} {V : EV} {cA : Nat → ClassId} {es0 : List va_E} {g0 : List Int} {L : Nat} {xs : Nat → Int32}
theorem finL_ok (hx : p.tables.exec = Jvm.exec) (hb : c.code = code) (hr : meth.sig.returnType = ret) (hlocks : meth.locks = false) (hcs : cs0 ≤ 600000) (hss : ss0 ≤ 7302250) {nL : Nat} {a : AS} {ins : ClassFile.Instr} {len : Nat} (hd : decode code a.1 = .ok (ins, len)) (h : finL ins len a = true) : WA (WW p l e room_1 s m #[Value.ref b] below meth c cs0 ss0 (lw_Z below #[Value.ref b] s)) m nL D cl (fun q : Nat => s.heap.size ≤ q) s.heap V cA es0 g0 a := by
  intro g lv sv es ls H locs h0 hG hlv hl hs hH
  unfold finL at h
  split at h
  · split at h
    · rename_i v hst
      simp only [Bool.and_eq_true, decide_eq_true_eq] at h
      obtain ⟨rfl, h1⟩ := h
      rw [hst] at hs
      obtain ⟨w, sv1, rfl, g1, hs1⟩ := zf2_cons hs
      cases sv1 with
      | cons _ _ => exact hs1.elim
      | nil =>
        split at h1
        · rename_i q hq
          have h1 := of_decide_eq_true h1
          obtain ⟨x, rfl, e1⟩ := ivI_ok hG g1 hq
          have : x = 1 := Int32.toInt_inj.mp ((ae_int0 e1 h1.1 h1.2).trans (by decide))
          subst this
          refine va_forget (fun q hq => hH.2.2.2.2.1.2.2 q hq) ?_
          refine W.widen (k := 600000) (n := 7302250) hcs hss ?_
          exact lw_ret hx hb hr hlocks hd
        · cases h1
    · cases h
  · cases h
theorem stpE_ok (hx : p.tables.exec = Jvm.exec) (hb : c.code = code) (hX : va_X b L xs s s.heap) (hbl : b < s.heap.size) (hV : V.1[0]? = some (.ref b)) {XS : List (AV × AV)} {LN : AV} (hLN : ∀ g, gxt g0 g → gam g V LN (.int L.toInt32)) (hXS : ∀ q ∈ XS, ∀ (g : List Int) (v : Value), gxt g0 g → gam g V q.1 v → ∃ X : Int32, v = .int X ∧ vp_in X L ∧ gam g V q.2 (.int (xs X.toNatClampNeg))) {nL : Nat} {a : AS} {ins : ClassFile.Instr} {len : Nat} {Ls : List AS} (hd : decode code a.1 = .ok (ins, len)) (h : stpE XS LN ins len a = some Ls) (hL : ∀ x ∈ Ls, WA (WW p l e room_1 s m #[Value.ref b] below meth c cs0 ss0 (lw_Z below #[Value.ref b] s)) m nL D cl (fun q : Nat => s.heap.size ≤ q) s.heap V cA es0 g0 x) : WA (WW p l e room_1 s m #[Value.ref b] below meth c cs0 ss0 (lw_Z below #[Value.ref b] s)) m nL D cl (fun q : Nat => s.heap.size ≤ q) s.heap V cA es0 g0 a := by
  intro g lv sv es ls H locs h0 hG hlv hl hs hH
  have hbA : ¬ (fun q : Nat => s.heap.size ≤ q) b := Nat.not_le.mpr hbl
  have ext : ∀ {v : Value}, gam g V (11, 0, 0) v → v = .ref b := fun {v} hv => by
    obtain ⟨r, e1, e2⟩ := hv
    have e1 : V.1[0]? = some (.ref r) := e1
    rw [hV] at e1
    cases e1
    exact e2
  unfold stpE at h
  split at h
  · split at h
    · rename_i k hc
      subst hc
      split at h
      · rename_i v hv
        split at h
        · rename_i ht
          cases h
          obtain ⟨j, w, h1, h2, h3⟩ := fnd_ok hl hv
          have h2' := h2
          obtain ⟨tv, v1, v2⟩ := v
          simp only at ht
          subst ht
          obtain ⟨r, e1, rfl⟩ := h2
          exact lv_aload_n hx hb hd rfl (lv_at hlv j h1) (WA_psh hL h0 hlv hl hs hH gxt_rf hG h2')
        · cases h
      · cases h
    · cases h
  · split at h
    · rename_i hc
      subst hc
      split at h
      · rename_i x st hst
        split at h
        · rename_i hxe
          cases h
          rw [hst, hxe] at hs
          obtain ⟨w, sv1, rfl, g1, hs1⟩ := zf2_cons hs
          rw [ext g1]
          exact va_slen hx hb hX hbl hbA hH.2.2.2.2.1 hd (hL _ (List.mem_singleton.mpr rfl) g lv _ es ls H locs h0 hG hlv hl ⟨hLN g h0, hs1⟩ hH)
        · cases h
      · cases h
    · cases h
  · split at h
    · rename_i hc
      subst hc
      split at h
      · rename_i i x st hst
        split at h
        · rename_i hxe
          split at h
          · rename_i v hv
            cases h
            rw [hst, hxe] at hs
            obtain ⟨w, sv1, rfl, g1, hs1⟩ := zf2_cons hs
            obtain ⟨w2, sv2, rfl, g2, hs2⟩ := zf2_cons hs1
            rw [ext g2]
            obtain ⟨X, rfl, e1, e2⟩ := hXS _ (lkp_mem hv) g w h0 g1
            exact va_sld hx hb hX hbl hbA hH.2.2.2.2.1 e1 hd (hL _ (List.mem_singleton.mpr rfl) g lv _ es ls H locs h0 hG hlv hl ⟨e2, hs2⟩ hH)
          · cases h
        · cases h
      · cases h
    · cases h
  · cases h
theorem runL_ok (hx : p.tables.exec = Jvm.exec) (hb : c.code = code) (hr : meth.sig.returnType = ret) (hlocks : meth.locks = false) {T : TB} (hml : c.maxLocals = T.2.1) (hown : s.vm.findClass R_law = some m.cls) (hts : ∀ w ∈ Ts, w.before #[Value.ref b] s = true) (hK : va_K D cl (tysA cA) s) (hN : NOK s) (hgood : ∀ w ∈ Ts, GoodIn Ts (w :: Ts)) (hT : TOK R_law cl Ts code T) {CT : CTB} (hCT : CTOK l R_law cl Ts CT) (hcs : cs0 ≤ 600000) (hss : ss0 ≤ 7302250) (hX : va_X b L xs s s.heap) (hbl : b < s.heap.size) (hV : V.1[0]? = some (.ref b)) {XS : List (AV × AV)} {LN : AV} (hLN : ∀ g, gxt g0 g → gam g V LN (.int L.toInt32)) (hXS : ∀ q ∈ XS, ∀ (g : List Int) (v : Value), gxt g0 g → gam g V q.1 v → ∃ X : Int32, v = .int X ∧ vp_in X L ∧ gam g V q.2 (.int (xs X.toNatClampNeg))) : ∀ (f : Nat) (a : AS), runL T CT (room_1.frames, room_1.locals) XS LN f a = true →
    WA (WW p l e room_1 s m #[Value.ref b] below meth c cs0 ss0 (lw_Z below #[Value.ref b] s)) m T.2.1 D cl (fun q : Nat => s.heap.size ≤ q) s.heap V cA es0 g0 a := by
  intro f
  induction f with
  | zero => intro a h; simp [runL] at h
  | succ f ih =>
    intro a h
    unfold runL at h
    split at h
    · cases h
    · rename_i q hq
      have hd : decode code a.1 = .ok (q.1, q.2) := hT.1 (a.1, q) (look_mem hq)
      simp only [Bool.or_eq_true] at h
      rcases h with h | h
      · exact finL_ok hx hb hr hlocks hcs hss hd h
      · split at h
        · rename_i L' hL
          exact stpE_ok hx hb hX hbl hV hLN hXS hd hL (fun b' hb' => ih b' (List.all_eq_true.mp h b' hb'))
        · split at h
          · rename_i L' hL
            have hall := fun b' hb' => ih b' (List.all_eq_true.mp h b' hb')
            unfold stp at hL
            split at hL
            · rename_i L'' h1
              cases hL
              exact stpA_ok hx hb hown hts hT hd h1 hall
            · split at hL
              · rename_i L'' h1
                cases hL
                exact stpH_ok hx hb hown hts hK hT hd h1 hall
              · exact stpC_ok hx hb hml hown hts hK hN (fun q hq => hq) hcs hss hgood (fun q hq => by cases hq) hCT hd hL hall
          · cases h
end LAWRUN
end
section
/-! ===== words of the tables, by their places ===== -/
def RL : String := "RookHustingLaw"
theorem gT_all : ∀ w ∈ gTbl, GoodIn gTbl (w :: gTbl) := fun _ h => gT_good h
theorem ae_in {ws : List Jvm.Cond} (ps : List Nat) (h : ws = ps.filterMap (fun i => lw_tbl[i]?)) (hg : ws.all goodWord = true) : ∀ w ∈ ws, w ∈ gTbl := fun w hw => by
  have h1 := List.all_eq_true.mp hg w hw
  rw [h] at hw
  obtain ⟨i, -, hi⟩ := List.mem_filterMap.mp hw
  exact gT_of hi h1
theorem wd_352 : Jvm.Cond.fieldLink RX8 19 "RookHusting$Slots" "lengths" "[I" ∈ gTbl := gT_of (i := 352) (by decide +kernel) (by decide +kernel)
theorem wd_507 : Jvm.Cond.fieldLink RX11 39 "RookHusting" "slots" "LRookHusting$Slots;" ∈ gTbl := gT_of (i := 507) (by decide +kernel) (by decide +kernel)
theorem wd_1210 : Jvm.Cond.code yX8_isSlot cX8_isSlot 1 (some .boolean) ∈ gTbl := gT_of (i := 1210) (by decide +kernel) (by decide +kernel)
theorem wd_1208 : Jvm.Cond.methodLink RX11 414 yX8_isSlot ∈ gTbl := gT_of (i := 1208) (by decide +kernel) (by decide +kernel)
theorem wd_131 : Jvm.Cond.initialized RX8 ∈ gTbl := gT_of (i := 131) (by decide +kernel) (by decide +kernel)
theorem wd_1209 : Jvm.Cond.static yX8_isSlot ∈ gTbl := gT_of (i := 1209) (by decide +kernel) (by decide +kernel)
theorem wd_1214 : Jvm.Cond.code yX8_hasRow cX8_hasRow 2 (some .boolean) ∈ gTbl := gT_of (i := 1214) (by decide +kernel) (by decide +kernel)
theorem wd_1211 : Jvm.Cond.methodLink RX11 420 yX8_hasRow ∈ gTbl := gT_of (i := 1211) (by decide +kernel) (by decide +kernel)
theorem wd_1212 : Jvm.Cond.instanceMethod yX8_hasRow ∈ gTbl := gT_of (i := 1212) (by decide +kernel) (by decide +kernel)
theorem wd_1213 : Jvm.Cond.selects RX8 yX8_hasRow yX8_hasRow ∈ gTbl := gT_of (i := 1213) (by decide +kernel) (by decide +kernel)
theorem wd_1709 : Jvm.Cond.constantLong RX12 275 3 ∈ gTbl := gT_of (i := 1709) (by decide +kernel) (by decide +kernel)
theorem wd_1544 : Jvm.Cond.code yX12_in cX12_in 6 (some .boolean) ∈ gTbl := gT_of (i := 1544) (by decide +kernel) (by decide +kernel)
theorem wd_1542 : Jvm.Cond.methodLink RX12 91 yX12_in ∈ gTbl := gT_of (i := 1542) (by decide +kernel) (by decide +kernel)
theorem wd_137 : Jvm.Cond.initialized RX12 ∈ gTbl := gT_of (i := 137) (by decide +kernel) (by decide +kernel)
theorem wd_1543 : Jvm.Cond.static yX12_in ∈ gTbl := gT_of (i := 1543) (by decide +kernel) (by decide +kernel)
theorem wd_1441 : Jvm.Cond.fieldLink RX12 73 "RookHustingModel" "many" "[I" ∈ gTbl := gT_of (i := 1441) (by decide +kernel) (by decide +kernel)
theorem wd_2057 : Jvm.Cond.code yX12_isSlot cX12_isSlot 1 (some .boolean) ∈ gTbl := gT_of (i := 2057) (by decide +kernel) (by decide +kernel)
theorem wd_2055 : Jvm.Cond.methodLink RX12 414 yX12_isSlot ∈ gTbl := gT_of (i := 2055) (by decide +kernel) (by decide +kernel)
theorem wd_2056 : Jvm.Cond.static yX12_isSlot ∈ gTbl := gT_of (i := 2056) (by decide +kernel) (by decide +kernel)
theorem wd_350 : Jvm.Cond.fieldLink RX8 15 "RookHusting$Slots" "widths" "[I" ∈ gTbl := gT_of (i := 350) (by decide +kernel) (by decide +kernel)
theorem wd_348 : Jvm.Cond.fieldLink RX8 9 "RookHusting$Slots" "numbers" "[J" ∈ gTbl := gT_of (i := 348) (by decide +kernel) (by decide +kernel)
theorem wd_1374 : Jvm.Cond.code yX8_renew cX8_renew 5 none ∈ gTbl := gT_of (i := 1374) (by decide +kernel) (by decide +kernel)
theorem wd_1371 : Jvm.Cond.methodLink RX11 417 yX8_renew ∈ gTbl := gT_of (i := 1371) (by decide +kernel) (by decide +kernel)
theorem wd_1372 : Jvm.Cond.instanceMethod yX8_renew ∈ gTbl := gT_of (i := 1372) (by decide +kernel) (by decide +kernel)
theorem wd_1373 : Jvm.Cond.selects RX8 yX8_renew yX8_renew ∈ gTbl := gT_of (i := 1373) (by decide +kernel) (by decide +kernel)
theorem wd_1442 : Jvm.Cond.fieldLink RX12 76 "RookHustingModel" "width" "[I" ∈ gTbl := gT_of (i := 1442) (by decide +kernel) (by decide +kernel)
theorem wd_1443 : Jvm.Cond.fieldLink RX12 79 "RookHustingModel" "numbers" "[J" ∈ gTbl := gT_of (i := 1443) (by decide +kernel) (by decide +kernel)
theorem wd_515 : Jvm.Cond.fieldLink RX11 411 "RookHusting" "keptImages" "I" ∈ gTbl := gT_of (i := 515) (by decide +kernel) (by decide +kernel)
theorem wd_682 : Jvm.Cond.code yX11_hasBit cX11_hasBit 2 (some .boolean) ∈ gTbl := gT_of (i := 682) (by decide +kernel) (by decide +kernel)
theorem wd_799 : Jvm.Cond.methodLink RX11 183 yX11_hasBit ∈ gTbl := gT_of (i := 799) (by decide +kernel) (by decide +kernel)
theorem wd_125 : Jvm.Cond.initialized RX11 ∈ gTbl := gT_of (i := 125) (by decide +kernel) (by decide +kernel)
theorem wd_681 : Jvm.Cond.static yX11_hasBit ∈ gTbl := gT_of (i := 681) (by decide +kernel) (by decide +kernel)
theorem wd_1403 : Jvm.Cond.fieldLink RX12 16 "RookHustingModel" "hasImage" "[Z" ∈ gTbl := gT_of (i := 1403) (by decide +kernel) (by decide +kernel)
theorem wd_1541 : Jvm.Cond.constantLong RX12 89 2 ∈ gTbl := gT_of (i := 1541) (by decide +kernel) (by decide +kernel)
theorem wd_195 : Jvm.Cond.fieldLink RX4 39 "RookHusting$Hundred" "lines" "I" ∈ gTbl := gT_of (i := 195) (by decide +kernel) (by decide +kernel)
theorem wd_198 : Jvm.Cond.fieldLink RX4 43 "RookHusting$Hundred" "days" "I" ∈ gTbl := gT_of (i := 198) (by decide +kernel) (by decide +kernel)
theorem wd_202 : Jvm.Cond.fieldLink RX4 46 "RookHusting$Hundred" "law" "I" ∈ gTbl := gT_of (i := 202) (by decide +kernel) (by decide +kernel)
theorem wd_206 : Jvm.Cond.fieldLink RX4 49 "RookHusting$Hundred" "odds" "I" ∈ gTbl := gT_of (i := 206) (by decide +kernel) (by decide +kernel)
theorem wd_210 : Jvm.Cond.fieldLink RX4 52 "RookHusting$Hundred" "fields" "I" ∈ gTbl := gT_of (i := 210) (by decide +kernel) (by decide +kernel)
theorem wd_215 : Jvm.Cond.fieldLink RX4 55 "RookHusting$Hundred" "hedges" "I" ∈ gTbl := gT_of (i := 215) (by decide +kernel) (by decide +kernel)
theorem wd_218 : Jvm.Cond.fieldLink RX4 58 "RookHusting$Hundred" "men" "I" ∈ gTbl := gT_of (i := 218) (by decide +kernel) (by decide +kernel)
theorem wd_224 : Jvm.Cond.fieldLink RX4 61 "RookHusting$Hundred" "voters" "I" ∈ gTbl := gT_of (i := 224) (by decide +kernel) (by decide +kernel)
theorem wd_227 : Jvm.Cond.fieldLink RX4 9 "RookHusting$Hundred" "corn" "[I" ∈ gTbl := gT_of (i := 227) (by decide +kernel) (by decide +kernel)
theorem wd_230 : Jvm.Cond.fieldLink RX4 15 "RookHusting$Hundred" "rooks" "[I" ∈ gTbl := gT_of (i := 230) (by decide +kernel) (by decide +kernel)
theorem wd_233 : Jvm.Cond.fieldLink RX4 18 "RookHusting$Hundred" "joined" "[I" ∈ gTbl := gT_of (i := 233) (by decide +kernel) (by decide +kernel)
theorem wd_236 : Jvm.Cond.fieldLink RX4 21 "RookHusting$Hundred" "frights" "[I" ∈ gTbl := gT_of (i := 236) (by decide +kernel) (by decide +kernel)
theorem wd_239 : Jvm.Cond.fieldLink RX4 24 "RookHusting$Hundred" "tires" "[I" ∈ gTbl := gT_of (i := 239) (by decide +kernel) (by decide +kernel)
theorem wd_242 : Jvm.Cond.fieldLink RX4 27 "RookHusting$Hundred" "hats" "[I" ∈ gTbl := gT_of (i := 242) (by decide +kernel) (by decide +kernel)
theorem wd_245 : Jvm.Cond.fieldLink RX4 30 "RookHusting$Hundred" "rowLength" "[I" ∈ gTbl := gT_of (i := 245) (by decide +kernel) (by decide +kernel)
theorem wd_247 : Jvm.Cond.fieldLink RX4 33 "RookHusting$Hundred" "rows" "[I" ∈ gTbl := gT_of (i := 247) (by decide +kernel) (by decide +kernel)
theorem wd_249 : Jvm.Cond.fieldLink RX4 36 "RookHusting$Hundred" "ahead" "[I" ∈ gTbl := gT_of (i := 249) (by decide +kernel) (by decide +kernel)
theorem wd_738 : Jvm.Cond.methodLink RX4 64 arraycopyName ∈ gTbl := gT_of (i := 738) (by decide +kernel) (by decide +kernel)
theorem wd_740 : Jvm.Cond.native arraycopyName ∈ gTbl := gT_of (i := 740) (by decide +kernel) (by decide +kernel)
theorem wd_739 : Jvm.Cond.static arraycopyName ∈ gTbl := gT_of (i := 739) (by decide +kernel) (by decide +kernel)
theorem wd_143 : Jvm.Cond.initialized "java/lang/System" ∈ gTbl := gT_of (i := 143) (by decide +kernel) (by decide +kernel)
theorem wd_318 : Jvm.Cond.fieldLink RX0 21 "RookHusting$Acts" "size" "I" ∈ gTbl := gT_of (i := 318) (by decide +kernel) (by decide +kernel)
theorem wd_320 : Jvm.Cond.fieldLink RX0 9 "RookHusting$Acts" "kinds" "[I" ∈ gTbl := gT_of (i := 320) (by decide +kernel) (by decide +kernel)
theorem wd_321 : Jvm.Cond.fieldLink RX0 15 "RookHusting$Acts" "fields" "[I" ∈ gTbl := gT_of (i := 321) (by decide +kernel) (by decide +kernel)
theorem wd_322 : Jvm.Cond.fieldLink RX0 18 "RookHusting$Acts" "values" "[I" ∈ gTbl := gT_of (i := 322) (by decide +kernel) (by decide +kernel)
theorem wd_1362 : Jvm.Cond.methodLink RX0 34 arraycopyName ∈ gTbl := gT_of (i := 1362) (by decide +kernel) (by decide +kernel)
theorem wd_332 : Jvm.Cond.fieldLink RX9 10 "RookHusting$State" "told" "LRookHusting$Hundred;" ∈ gTbl := gT_of (i := 332) (by decide +kernel) (by decide +kernel)
theorem wd_334 : Jvm.Cond.fieldLink RX9 19 "RookHusting$State" "acts" "LRookHusting$Acts;" ∈ gTbl := gT_of (i := 334) (by decide +kernel) (by decide +kernel)
theorem wd_737 : Jvm.Cond.code yX4_copyFrom cX4_copyFrom 2 none ∈ gTbl := gT_of (i := 737) (by decide +kernel) (by decide +kernel)
theorem wd_1357 : Jvm.Cond.methodLink RX9 23 yX4_copyFrom ∈ gTbl := gT_of (i := 1357) (by decide +kernel) (by decide +kernel)
theorem wd_128 : Jvm.Cond.initialized RX4 ∈ gTbl := gT_of (i := 128) (by decide +kernel) (by decide +kernel)
theorem wd_735 : Jvm.Cond.instanceMethod yX4_copyFrom ∈ gTbl := gT_of (i := 735) (by decide +kernel) (by decide +kernel)
theorem wd_736 : Jvm.Cond.selects RX4 yX4_copyFrom yX4_copyFrom ∈ gTbl := gT_of (i := 736) (by decide +kernel) (by decide +kernel)
theorem wd_1361 : Jvm.Cond.code yX0_copyFrom cX0_copyFrom 2 none ∈ gTbl := gT_of (i := 1361) (by decide +kernel) (by decide +kernel)
theorem wd_1358 : Jvm.Cond.methodLink RX9 27 yX0_copyFrom ∈ gTbl := gT_of (i := 1358) (by decide +kernel) (by decide +kernel)
theorem wd_130 : Jvm.Cond.initialized RX0 ∈ gTbl := gT_of (i := 130) (by decide +kernel) (by decide +kernel)
theorem wd_1359 : Jvm.Cond.instanceMethod yX0_copyFrom ∈ gTbl := gT_of (i := 1359) (by decide +kernel) (by decide +kernel)
theorem wd_1360 : Jvm.Cond.selects RX0 yX0_copyFrom yX0_copyFrom ∈ gTbl := gT_of (i := 1360) (by decide +kernel) (by decide +kernel)
theorem wd_506 : Jvm.Cond.fieldLink RX11 32 "RookHusting" "images" "[LRookHusting$State;" ∈ gTbl := gT_of (i := 506) (by decide +kernel) (by decide +kernel)
theorem wd_505 : Jvm.Cond.fieldLink RX11 28 "RookHusting" "state" "LRookHusting$State;" ∈ gTbl := gT_of (i := 505) (by decide +kernel) (by decide +kernel)
theorem wd_1356 : Jvm.Cond.code yX9_copyFrom cX9_copyFrom 2 none ∈ gTbl := gT_of (i := 1356) (by decide +kernel) (by decide +kernel)
theorem wd_1353 : Jvm.Cond.methodLink RX11 408 yX9_copyFrom ∈ gTbl := gT_of (i := 1353) (by decide +kernel) (by decide +kernel)
theorem wd_129 : Jvm.Cond.initialized RX9 ∈ gTbl := gT_of (i := 129) (by decide +kernel) (by decide +kernel)
theorem wd_1354 : Jvm.Cond.instanceMethod yX9_copyFrom ∈ gTbl := gT_of (i := 1354) (by decide +kernel) (by decide +kernel)
theorem wd_1355 : Jvm.Cond.selects RX9 yX9_copyFrom yX9_copyFrom ∈ gTbl := gT_of (i := 1355) (by decide +kernel) (by decide +kernel)
theorem wd_1402 : Jvm.Cond.fieldLink RX12 13 "RookHustingModel" "images" "[I" ∈ gTbl := gT_of (i := 1402) (by decide +kernel) (by decide +kernel)
theorem wd_1401 : Jvm.Cond.fieldLink RX12 9 "RookHustingModel" "world" "[I" ∈ gTbl := gT_of (i := 1401) (by decide +kernel) (by decide +kernel)
theorem wd_1348 : Jvm.Cond.methodLink RX8 22 yX8_hasRow ∈ gTbl := gT_of (i := 1348) (by decide +kernel) (by decide +kernel)
theorem wd_333 : Jvm.Cond.fieldLink RX11 45 "RookHusting$State" "told" "LRookHusting$Hundred;" ∈ gTbl := gT_of (i := 333) (by decide +kernel) (by decide +kernel)
theorem wd_201 : Jvm.Cond.fieldLink RX11 297 "RookHusting$Hundred" "days" "I" ∈ gTbl := gT_of (i := 201) (by decide +kernel) (by decide +kernel)
theorem wd_205 : Jvm.Cond.fieldLink RX11 201 "RookHusting$Hundred" "law" "I" ∈ gTbl := gT_of (i := 205) (by decide +kernel) (by decide +kernel)
theorem wd_208 : Jvm.Cond.fieldLink RX11 399 "RookHusting$Hundred" "odds" "I" ∈ gTbl := gT_of (i := 208) (by decide +kernel) (by decide +kernel)
theorem wd_214 : Jvm.Cond.fieldLink RX11 291 "RookHusting$Hundred" "fields" "I" ∈ gTbl := gT_of (i := 214) (by decide +kernel) (by decide +kernel)
theorem wd_217 : Jvm.Cond.fieldLink RX11 402 "RookHusting$Hundred" "hedges" "I" ∈ gTbl := gT_of (i := 217) (by decide +kernel) (by decide +kernel)
theorem wd_222 : Jvm.Cond.fieldLink RX11 303 "RookHusting$Hundred" "men" "I" ∈ gTbl := gT_of (i := 222) (by decide +kernel) (by decide +kernel)
theorem wd_226 : Jvm.Cond.fieldLink RX11 244 "RookHusting$Hundred" "voters" "I" ∈ gTbl := gT_of (i := 226) (by decide +kernel) (by decide +kernel)
theorem wd_335 : Jvm.Cond.fieldLink RX11 121 "RookHusting$State" "acts" "LRookHusting$Acts;" ∈ gTbl := gT_of (i := 335) (by decide +kernel) (by decide +kernel)
theorem wd_319 : Jvm.Cond.fieldLink RX11 125 "RookHusting$Acts" "size" "I" ∈ gTbl := gT_of (i := 319) (by decide +kernel) (by decide +kernel)
theorem wd_197 : Jvm.Cond.fieldLink RX11 133 "RookHusting$Hundred" "lines" "I" ∈ gTbl := gT_of (i := 197) (by decide +kernel) (by decide +kernel)
theorem wd_503 : Jvm.Cond.fieldLink RX11 10 "RookHusting" "tape" "LRookHusting$Tape;" ∈ gTbl := gT_of (i := 503) (by decide +kernel) (by decide +kernel)
theorem wd_160 : Jvm.Cond.fieldLink RX11 92 "RookHusting$Tape" "length" "I" ∈ gTbl := gT_of (i := 160) (by decide +kernel) (by decide +kernel)
theorem wd_1347 : Jvm.Cond.code yX8_countRows cX8_countRows 3 (some .int) ∈ gTbl := gT_of (i := 1347) (by decide +kernel) (by decide +kernel)
theorem wd_1344 : Jvm.Cond.methodLink RX11 405 yX8_countRows ∈ gTbl := gT_of (i := 1344) (by decide +kernel) (by decide +kernel)
theorem wd_1345 : Jvm.Cond.instanceMethod yX8_countRows ∈ gTbl := gT_of (i := 1345) (by decide +kernel) (by decide +kernel)
theorem wd_1346 : Jvm.Cond.selects RX8 yX8_countRows yX8_countRows ∈ gTbl := gT_of (i := 1346) (by decide +kernel) (by decide +kernel)
theorem wd_1405 : Jvm.Cond.fieldLink RX12 113 "RookHustingModel" "taped" "I" ∈ gTbl := gT_of (i := 1405) (by decide +kernel) (by decide +kernel)
theorem wd_2169 : Jvm.Cond.constantLong RX12 500 8 ∈ gTbl := gT_of (i := 2169) (by decide +kernel) (by decide +kernel)
theorem wd_771 : Jvm.Cond.code yX11_isMan cX11_isMan 2 (some .boolean) ∈ gTbl := gT_of (i := 771) (by decide +kernel) (by decide +kernel)
theorem wd_768 : Jvm.Cond.methodLink RX11 156 yX11_isMan ∈ gTbl := gT_of (i := 768) (by decide +kernel) (by decide +kernel)
theorem wd_770 : Jvm.Cond.instanceMethod yX11_isMan ∈ gTbl := gT_of (i := 770) (by decide +kernel) (by decide +kernel)
theorem wd_12 : Jvm.Cond.selects RX11 yX11_isMan yX11_isMan ∈ gTbl := gT_of (i := 12) (by decide +kernel) (by decide +kernel)
theorem wd_1672 : Jvm.Cond.code yX12_men cX12_men 1 (some .int) ∈ gTbl := gT_of (i := 1672) (by decide +kernel) (by decide +kernel)
theorem wd_1669 : Jvm.Cond.methodLink RX12 95 yX12_men ∈ gTbl := gT_of (i := 1669) (by decide +kernel) (by decide +kernel)
theorem wd_1671 : Jvm.Cond.instanceMethod yX12_men ∈ gTbl := gT_of (i := 1671) (by decide +kernel) (by decide +kernel)
theorem wd_69 : Jvm.Cond.selects RX12 yX12_men yX12_men ∈ gTbl := gT_of (i := 69) (by decide +kernel) (by decide +kernel)
theorem wd_1668 : Jvm.Cond.code yX12_isMan cX12_isMan 2 (some .boolean) ∈ gTbl := gT_of (i := 1668) (by decide +kernel) (by decide +kernel)
theorem wd_1665 : Jvm.Cond.methodLink RX12 236 yX12_isMan ∈ gTbl := gT_of (i := 1665) (by decide +kernel) (by decide +kernel)
theorem wd_1667 : Jvm.Cond.instanceMethod yX12_isMan ∈ gTbl := gT_of (i := 1667) (by decide +kernel) (by decide +kernel)
theorem wd_68 : Jvm.Cond.selects RX12 yX12_isMan yX12_isMan ∈ gTbl := gT_of (i := 68) (by decide +kernel) (by decide +kernel)
theorem wd_756 : Jvm.Cond.code yX11_isField cX11_isField 2 (some .boolean) ∈ gTbl := gT_of (i := 756) (by decide +kernel) (by decide +kernel)
theorem wd_753 : Jvm.Cond.methodLink RX11 139 yX11_isField ∈ gTbl := gT_of (i := 753) (by decide +kernel) (by decide +kernel)
theorem wd_755 : Jvm.Cond.instanceMethod yX11_isField ∈ gTbl := gT_of (i := 755) (by decide +kernel) (by decide +kernel)
theorem wd_11 : Jvm.Cond.selects RX11 yX11_isField yX11_isField ∈ gTbl := gT_of (i := 11) (by decide +kernel) (by decide +kernel)
theorem wd_2145 : Jvm.Cond.constantLong RX12 487 2000000000 ∈ gTbl := gT_of (i := 2145) (by decide +kernel) (by decide +kernel)
theorem wd_1660 : Jvm.Cond.code yX12_fields cX12_fields 1 (some .int) ∈ gTbl := gT_of (i := 1660) (by decide +kernel) (by decide +kernel)
theorem wd_1657 : Jvm.Cond.methodLink RX12 106 yX12_fields ∈ gTbl := gT_of (i := 1657) (by decide +kernel) (by decide +kernel)
theorem wd_1659 : Jvm.Cond.instanceMethod yX12_fields ∈ gTbl := gT_of (i := 1659) (by decide +kernel) (by decide +kernel)
theorem wd_67 : Jvm.Cond.selects RX12 yX12_fields yX12_fields ∈ gTbl := gT_of (i := 67) (by decide +kernel) (by decide +kernel)
theorem wd_2159 : Jvm.Cond.constantLong RX12 496 20 ∈ gTbl := gT_of (i := 2159) (by decide +kernel) (by decide +kernel)
theorem wd_2144 : Jvm.Cond.code yX12_isSeed cX12_isSeed 1 (some .boolean) ∈ gTbl := gT_of (i := 2144) (by decide +kernel) (by decide +kernel)
theorem wd_2142 : Jvm.Cond.methodLink RX12 489 yX12_isSeed ∈ gTbl := gT_of (i := 2142) (by decide +kernel) (by decide +kernel)
theorem wd_2143 : Jvm.Cond.static yX12_isSeed ∈ gTbl := gT_of (i := 2143) (by decide +kernel) (by decide +kernel)
theorem wd_1656 : Jvm.Cond.code yX12_isField cX12_isField 3 (some .boolean) ∈ gTbl := gT_of (i := 1656) (by decide +kernel) (by decide +kernel)
theorem wd_1653 : Jvm.Cond.methodLink RX12 109 yX12_isField ∈ gTbl := gT_of (i := 1653) (by decide +kernel) (by decide +kernel)
theorem wd_1655 : Jvm.Cond.instanceMethod yX12_isField ∈ gTbl := gT_of (i := 1655) (by decide +kernel) (by decide +kernel)
theorem wd_66 : Jvm.Cond.selects RX12 yX12_isField yX12_isField ∈ gTbl := gT_of (i := 66) (by decide +kernel) (by decide +kernel)
theorem wd_795 : Jvm.Cond.code yX11_isTold cX11_isTold 1 (some .boolean) ∈ gTbl := gT_of (i := 795) (by decide +kernel) (by decide +kernel)
theorem wd_792 : Jvm.Cond.methodLink RX11 219 yX11_isTold ∈ gTbl := gT_of (i := 792) (by decide +kernel) (by decide +kernel)
theorem wd_794 : Jvm.Cond.instanceMethod yX11_isTold ∈ gTbl := gT_of (i := 794) (by decide +kernel) (by decide +kernel)
theorem wd_15 : Jvm.Cond.selects RX11 yX11_isTold yX11_isTold ∈ gTbl := gT_of (i := 15) (by decide +kernel) (by decide +kernel)
theorem wd_1704 : Jvm.Cond.code yX12_isHundred cX12_isHundred 1 (some .boolean) ∈ gTbl := gT_of (i := 1704) (by decide +kernel) (by decide +kernel)
theorem wd_1701 : Jvm.Cond.methodLink RX12 99 yX12_isHundred ∈ gTbl := gT_of (i := 1701) (by decide +kernel) (by decide +kernel)
theorem wd_1703 : Jvm.Cond.instanceMethod yX12_isHundred ∈ gTbl := gT_of (i := 1703) (by decide +kernel) (by decide +kernel)
theorem wd_74 : Jvm.Cond.selects RX12 yX12_isHundred yX12_isHundred ∈ gTbl := gT_of (i := 74) (by decide +kernel) (by decide +kernel)
theorem wd_1039 : Jvm.Cond.code yX11_isEatingDay cX11_isEatingDay 2 (some .boolean) ∈ gTbl := gT_of (i := 1039) (by decide +kernel) (by decide +kernel)
theorem wd_1036 : Jvm.Cond.methodLink RX11 272 yX11_isEatingDay ∈ gTbl := gT_of (i := 1036) (by decide +kernel) (by decide +kernel)
theorem wd_1038 : Jvm.Cond.instanceMethod yX11_isEatingDay ∈ gTbl := gT_of (i := 1038) (by decide +kernel) (by decide +kernel)
theorem wd_33 : Jvm.Cond.selects RX11 yX11_isEatingDay yX11_isEatingDay ∈ gTbl := gT_of (i := 33) (by decide +kernel) (by decide +kernel)
theorem wd_1279 : Jvm.Cond.constantLong RX11 367 (-2) ∈ gTbl := gT_of (i := 1279) (by decide +kernel) (by decide +kernel)
theorem wd_1278 : Jvm.Cond.code yX11_isChanceDay cX11_isChanceDay 2 (some .boolean) ∈ gTbl := gT_of (i := 1278) (by decide +kernel) (by decide +kernel)
theorem wd_1275 : Jvm.Cond.methodLink RX11 364 yX11_isChanceDay ∈ gTbl := gT_of (i := 1275) (by decide +kernel) (by decide +kernel)
theorem wd_1277 : Jvm.Cond.instanceMethod yX11_isChanceDay ∈ gTbl := gT_of (i := 1277) (by decide +kernel) (by decide +kernel)
theorem wd_47 : Jvm.Cond.selects RX11 yX11_isChanceDay yX11_isChanceDay ∈ gTbl := gT_of (i := 47) (by decide +kernel) (by decide +kernel)
theorem wd_1922 : Jvm.Cond.code yX12_isAhead cX12_isAhead 3 (some .boolean) ∈ gTbl := gT_of (i := 1922) (by decide +kernel) (by decide +kernel)
theorem wd_1919 : Jvm.Cond.methodLink RX12 372 yX12_isAhead ∈ gTbl := gT_of (i := 1919) (by decide +kernel) (by decide +kernel)
theorem wd_1921 : Jvm.Cond.instanceMethod yX12_isAhead ∈ gTbl := gT_of (i := 1921) (by decide +kernel) (by decide +kernel)
theorem wd_103 : Jvm.Cond.selects RX12 yX12_isAhead yX12_isAhead ∈ gTbl := gT_of (i := 103) (by decide +kernel) (by decide +kernel)
theorem wd_2109 : Jvm.Cond.constantLong RX12 468 (-2) ∈ gTbl := gT_of (i := 2109) (by decide +kernel) (by decide +kernel)
theorem wd_2107 : Jvm.Cond.code yX12_isWinds cX12_isWinds 3 (some .boolean) ∈ gTbl := gT_of (i := 2107) (by decide +kernel) (by decide +kernel)
theorem wd_2104 : Jvm.Cond.methodLink RX12 465 yX12_isWinds ∈ gTbl := gT_of (i := 2104) (by decide +kernel) (by decide +kernel)
theorem wd_2106 : Jvm.Cond.instanceMethod yX12_isWinds ∈ gTbl := gT_of (i := 2106) (by decide +kernel) (by decide +kernel)
theorem wd_120 : Jvm.Cond.selects RX12 yX12_isWinds yX12_isWinds ∈ gTbl := gT_of (i := 120) (by decide +kernel) (by decide +kernel)
theorem wd_2090 : Jvm.Cond.code yX12_areFields cX12_areFields 3 (some .boolean) ∈ gTbl := gT_of (i := 2090) (by decide +kernel) (by decide +kernel)
theorem wd_2087 : Jvm.Cond.methodLink RX12 444 yX12_areFields ∈ gTbl := gT_of (i := 2087) (by decide +kernel) (by decide +kernel)
theorem wd_2089 : Jvm.Cond.instanceMethod yX12_areFields ∈ gTbl := gT_of (i := 2089) (by decide +kernel) (by decide +kernel)
theorem wd_118 : Jvm.Cond.selects RX12 yX12_areFields yX12_areFields ∈ gTbl := gT_of (i := 118) (by decide +kernel) (by decide +kernel)
theorem wd_1207 : Jvm.Cond.code yX11_wrongSeen cX11_wrongSeen 5 (some .int) ∈ gTbl := gT_of (i := 1207) (by decide +kernel) (by decide +kernel)
theorem wd_1204 : Jvm.Cond.methodLink RX11 341 yX11_wrongSeen ∈ gTbl := gT_of (i := 1204) (by decide +kernel) (by decide +kernel)
theorem wd_1206 : Jvm.Cond.instanceMethod yX11_wrongSeen ∈ gTbl := gT_of (i := 1206) (by decide +kernel) (by decide +kernel)
theorem wd_41 : Jvm.Cond.selects RX11 yX11_wrongSeen yX11_wrongSeen ∈ gTbl := gT_of (i := 41) (by decide +kernel) (by decide +kernel)
theorem wd_2054 : Jvm.Cond.code yX12_askSeen cX12_askSeen 4 (some .int) ∈ gTbl := gT_of (i := 2054) (by decide +kernel) (by decide +kernel)
theorem wd_2051 : Jvm.Cond.methodLink RX12 423 yX12_askSeen ∈ gTbl := gT_of (i := 2051) (by decide +kernel) (by decide +kernel)
theorem wd_2053 : Jvm.Cond.instanceMethod yX12_askSeen ∈ gTbl := gT_of (i := 2053) (by decide +kernel) (by decide +kernel)
theorem wd_113 : Jvm.Cond.selects RX12 yX12_askSeen yX12_askSeen ∈ gTbl := gT_of (i := 113) (by decide +kernel) (by decide +kernel)
theorem wd_2050 : Jvm.Cond.code yX12_layMay cX12_layMay 6 (some .int) ∈ gTbl := gT_of (i := 2050) (by decide +kernel) (by decide +kernel)
theorem wd_2047 : Jvm.Cond.methodLink RX12 432 yX12_layMay ∈ gTbl := gT_of (i := 2047) (by decide +kernel) (by decide +kernel)
theorem wd_2049 : Jvm.Cond.instanceMethod yX12_layMay ∈ gTbl := gT_of (i := 2049) (by decide +kernel) (by decide +kernel)
theorem wd_112 : Jvm.Cond.selects RX12 yX12_layMay yX12_layMay ∈ gTbl := gT_of (i := 112) (by decide +kernel) (by decide +kernel)
theorem wd_1417 : Jvm.Cond.fieldLink RX12 246 "RookHustingModel" "awaySet" "I" ∈ gTbl := gT_of (i := 1417) (by decide +kernel) (by decide +kernel)
theorem wd_1416 : Jvm.Cond.fieldLink RX12 37 "RookHustingModel" "longOf" "[I" ∈ gTbl := gT_of (i := 1416) (by decide +kernel) (by decide +kernel)
theorem wd_1415 : Jvm.Cond.fieldLink RX12 34 "RookHustingModel" "rowOf" "[I" ∈ gTbl := gT_of (i := 1415) (by decide +kernel) (by decide +kernel)
theorem wd_1708 : Jvm.Cond.code yX12_allMen cX12_allMen 1 (some .int) ∈ gTbl := gT_of (i := 1708) (by decide +kernel) (by decide +kernel)
theorem wd_1705 : Jvm.Cond.methodLink RX12 269 yX12_allMen ∈ gTbl := gT_of (i := 1705) (by decide +kernel) (by decide +kernel)
theorem wd_1707 : Jvm.Cond.instanceMethod yX12_allMen ∈ gTbl := gT_of (i := 1707) (by decide +kernel) (by decide +kernel)
theorem wd_75 : Jvm.Cond.selects RX12 yX12_allMen yX12_allMen ∈ gTbl := gT_of (i := 75) (by decide +kernel) (by decide +kernel)
theorem wd_1420 : Jvm.Cond.fieldLink RX12 46 "RookHustingModel" "spokeOn" "[I" ∈ gTbl := gT_of (i := 1420) (by decide +kernel) (by decide +kernel)
theorem wd_1421 : Jvm.Cond.fieldLink RX12 323 "RookHustingModel" "windSet" "I" ∈ gTbl := gT_of (i := 1421) (by decide +kernel) (by decide +kernel)
theorem wd_1422 : Jvm.Cond.fieldLink RX12 326 "RookHustingModel" "alwaysSet" "I" ∈ gTbl := gT_of (i := 1422) (by decide +kernel) (by decide +kernel)
theorem wd_1423 : Jvm.Cond.fieldLink RX12 329 "RookHustingModel" "moreOne" "I" ∈ gTbl := gT_of (i := 1423) (by decide +kernel) (by decide +kernel)
theorem wd_1424 : Jvm.Cond.fieldLink RX12 332 "RookHustingModel" "moreOther" "I" ∈ gTbl := gT_of (i := 1424) (by decide +kernel) (by decide +kernel)
theorem wd_1419 : Jvm.Cond.fieldLink RX12 43 "RookHustingModel" "standsIn" "[I" ∈ gTbl := gT_of (i := 1419) (by decide +kernel) (by decide +kernel)
theorem wd_1692 : Jvm.Cond.code yX12_rowsAsTold cX12_rowsAsTold 3 none ∈ gTbl := gT_of (i := 1692) (by decide +kernel) (by decide +kernel)
theorem wd_1689 : Jvm.Cond.methodLink RX12 249 yX12_rowsAsTold ∈ gTbl := gT_of (i := 1689) (by decide +kernel) (by decide +kernel)
theorem wd_1691 : Jvm.Cond.instanceMethod yX12_rowsAsTold ∈ gTbl := gT_of (i := 1691) (by decide +kernel) (by decide +kernel)
theorem wd_72 : Jvm.Cond.selects RX12 yX12_rowsAsTold yX12_rowsAsTold ∈ gTbl := gT_of (i := 72) (by decide +kernel) (by decide +kernel)
theorem wd_1744 : Jvm.Cond.code yX12_electAll cX12_electAll 4 none ∈ gTbl := gT_of (i := 1744) (by decide +kernel) (by decide +kernel)
theorem wd_1741 : Jvm.Cond.methodLink RX12 280 yX12_electAll ∈ gTbl := gT_of (i := 1741) (by decide +kernel) (by decide +kernel)
theorem wd_1743 : Jvm.Cond.instanceMethod yX12_electAll ∈ gTbl := gT_of (i := 1743) (by decide +kernel) (by decide +kernel)
theorem wd_81 : Jvm.Cond.selects RX12 yX12_electAll yX12_electAll ∈ gTbl := gT_of (i := 81) (by decide +kernel) (by decide +kernel)
theorem wd_1845 : Jvm.Cond.code yX12_speeches cX12_speeches 3 none ∈ gTbl := gT_of (i := 1845) (by decide +kernel) (by decide +kernel)
theorem wd_1842 : Jvm.Cond.methodLink RX12 335 yX12_speeches ∈ gTbl := gT_of (i := 1842) (by decide +kernel) (by decide +kernel)
theorem wd_1844 : Jvm.Cond.instanceMethod yX12_speeches ∈ gTbl := gT_of (i := 1844) (by decide +kernel) (by decide +kernel)
theorem wd_91 : Jvm.Cond.selects RX12 yX12_speeches yX12_speeches ∈ gTbl := gT_of (i := 91) (by decide +kernel) (by decide +kernel)
theorem wd_1841 : Jvm.Cond.code yX12_asElected cX12_asElected 3 none ∈ gTbl := gT_of (i := 1841) (by decide +kernel) (by decide +kernel)
theorem wd_1838 : Jvm.Cond.methodLink RX12 338 yX12_asElected ∈ gTbl := gT_of (i := 1838) (by decide +kernel) (by decide +kernel)
theorem wd_1840 : Jvm.Cond.instanceMethod yX12_asElected ∈ gTbl := gT_of (i := 1840) (by decide +kernel) (by decide +kernel)
theorem wd_90 : Jvm.Cond.selects RX12 yX12_asElected yX12_asElected ∈ gTbl := gT_of (i := 90) (by decide +kernel) (by decide +kernel)
theorem wd_1885 : Jvm.Cond.code yX12_days cX12_days 1 (some .int) ∈ gTbl := gT_of (i := 1885) (by decide +kernel) (by decide +kernel)
theorem wd_1882 : Jvm.Cond.methodLink RX12 103 yX12_days ∈ gTbl := gT_of (i := 1882) (by decide +kernel) (by decide +kernel)
theorem wd_1884 : Jvm.Cond.instanceMethod yX12_days ∈ gTbl := gT_of (i := 1884) (by decide +kernel) (by decide +kernel)
theorem wd_97 : Jvm.Cond.selects RX12 yX12_days yX12_days ∈ gTbl := gT_of (i := 97) (by decide +kernel) (by decide +kernel)
theorem wd_1837 : Jvm.Cond.code yX12_asItIs cX12_asItIs 3 none ∈ gTbl := gT_of (i := 1837) (by decide +kernel) (by decide +kernel)
theorem wd_1834 : Jvm.Cond.methodLink RX12 345 yX12_asItIs ∈ gTbl := gT_of (i := 1834) (by decide +kernel) (by decide +kernel)
theorem wd_1836 : Jvm.Cond.instanceMethod yX12_asItIs ∈ gTbl := gT_of (i := 1836) (by decide +kernel) (by decide +kernel)
theorem wd_89 : Jvm.Cond.selects RX12 yX12_asItIs yX12_asItIs ∈ gTbl := gT_of (i := 89) (by decide +kernel) (by decide +kernel)
theorem wd_1881 : Jvm.Cond.code yX12_goAll cX12_goAll 3 none ∈ gTbl := gT_of (i := 1881) (by decide +kernel) (by decide +kernel)
theorem wd_1878 : Jvm.Cond.methodLink RX12 363 yX12_goAll ∈ gTbl := gT_of (i := 1878) (by decide +kernel) (by decide +kernel)
theorem wd_1880 : Jvm.Cond.instanceMethod yX12_goAll ∈ gTbl := gT_of (i := 1880) (by decide +kernel) (by decide +kernel)
theorem wd_96 : Jvm.Cond.selects RX12 yX12_goAll yX12_goAll ∈ gTbl := gT_of (i := 96) (by decide +kernel) (by decide +kernel)
theorem wd_1877 : Jvm.Cond.code yX12_asksHundred cX12_asksHundred 1 (some .boolean) ∈ gTbl := gT_of (i := 1877) (by decide +kernel) (by decide +kernel)
theorem wd_1874 : Jvm.Cond.methodLink RX12 366 yX12_asksHundred ∈ gTbl := gT_of (i := 1874) (by decide +kernel) (by decide +kernel)
theorem wd_1876 : Jvm.Cond.instanceMethod yX12_asksHundred ∈ gTbl := gT_of (i := 1876) (by decide +kernel) (by decide +kernel)
theorem wd_95 : Jvm.Cond.selects RX12 yX12_asksHundred yX12_asksHundred ∈ gTbl := gT_of (i := 95) (by decide +kernel) (by decide +kernel)
theorem wd_1994 : Jvm.Cond.code yX12_asksRows cX12_asksRows 2 (some .boolean) ∈ gTbl := gT_of (i := 1994) (by decide +kernel) (by decide +kernel)
theorem wd_1991 : Jvm.Cond.methodLink RX12 408 yX12_asksRows ∈ gTbl := gT_of (i := 1991) (by decide +kernel) (by decide +kernel)
theorem wd_1993 : Jvm.Cond.instanceMethod yX12_asksRows ∈ gTbl := gT_of (i := 1993) (by decide +kernel) (by decide +kernel)
theorem wd_106 : Jvm.Cond.selects RX12 yX12_asksRows yX12_asksRows ∈ gTbl := gT_of (i := 106) (by decide +kernel) (by decide +kernel)
theorem wd_1019 : Jvm.Cond.code yX11_isDay cX11_isDay 2 (some .boolean) ∈ gTbl := gT_of (i := 1019) (by decide +kernel) (by decide +kernel)
theorem wd_1016 : Jvm.Cond.methodLink RX11 260 yX11_isDay ∈ gTbl := gT_of (i := 1016) (by decide +kernel) (by decide +kernel)
theorem wd_1018 : Jvm.Cond.instanceMethod yX11_isDay ∈ gTbl := gT_of (i := 1018) (by decide +kernel) (by decide +kernel)
theorem wd_31 : Jvm.Cond.selects RX11 yX11_isDay yX11_isDay ∈ gTbl := gT_of (i := 31) (by decide +kernel) (by decide +kernel)
theorem wd_1902 : Jvm.Cond.code yX12_isDay cX12_isDay 3 (some .boolean) ∈ gTbl := gT_of (i := 1902) (by decide +kernel) (by decide +kernel)
theorem wd_1899 : Jvm.Cond.methodLink RX12 369 yX12_isDay ∈ gTbl := gT_of (i := 1899) (by decide +kernel) (by decide +kernel)
theorem wd_1901 : Jvm.Cond.instanceMethod yX12_isDay ∈ gTbl := gT_of (i := 1901) (by decide +kernel) (by decide +kernel)
theorem wd_101 : Jvm.Cond.selects RX12 yX12_isDay yX12_isDay ∈ gTbl := gT_of (i := 101) (by decide +kernel) (by decide +kernel)
theorem wd_1873 : Jvm.Cond.code yX12_asksDay cX12_asksDay 2 (some .boolean) ∈ gTbl := gT_of (i := 1873) (by decide +kernel) (by decide +kernel)
theorem wd_1870 : Jvm.Cond.methodLink RX12 378 yX12_asksDay ∈ gTbl := gT_of (i := 1870) (by decide +kernel) (by decide +kernel)
theorem wd_1872 : Jvm.Cond.instanceMethod yX12_asksDay ∈ gTbl := gT_of (i := 1872) (by decide +kernel) (by decide +kernel)
theorem wd_94 : Jvm.Cond.selects RX12 yX12_asksDay yX12_asksDay ∈ gTbl := gT_of (i := 94) (by decide +kernel) (by decide +kernel)
theorem wd_1918 : Jvm.Cond.code yX12_asksAhead cX12_asksAhead 2 (some .boolean) ∈ gTbl := gT_of (i := 1918) (by decide +kernel) (by decide +kernel)
theorem wd_1915 : Jvm.Cond.methodLink RX12 381 yX12_asksAhead ∈ gTbl := gT_of (i := 1915) (by decide +kernel) (by decide +kernel)
theorem wd_1917 : Jvm.Cond.instanceMethod yX12_asksAhead ∈ gTbl := gT_of (i := 1917) (by decide +kernel) (by decide +kernel)
theorem wd_102 : Jvm.Cond.selects RX12 yX12_asksAhead yX12_asksAhead ∈ gTbl := gT_of (i := 102) (by decide +kernel) (by decide +kernel)
theorem wd_1946 : Jvm.Cond.code yX12_asksField cX12_asksField 2 (some .boolean) ∈ gTbl := gT_of (i := 1946) (by decide +kernel) (by decide +kernel)
theorem wd_1943 : Jvm.Cond.methodLink RX12 384 yX12_asksField ∈ gTbl := gT_of (i := 1943) (by decide +kernel) (by decide +kernel)
theorem wd_1945 : Jvm.Cond.instanceMethod yX12_asksField ∈ gTbl := gT_of (i := 1945) (by decide +kernel) (by decide +kernel)
theorem wd_105 : Jvm.Cond.selects RX12 yX12_asksField yX12_asksField ∈ gTbl := gT_of (i := 105) (by decide +kernel) (by decide +kernel)
theorem wd_779 : Jvm.Cond.code yX11_isVoter cX11_isVoter 2 (some .boolean) ∈ gTbl := gT_of (i := 779) (by decide +kernel) (by decide +kernel)
theorem wd_776 : Jvm.Cond.methodLink RX11 165 yX11_isVoter ∈ gTbl := gT_of (i := 776) (by decide +kernel) (by decide +kernel)
theorem wd_778 : Jvm.Cond.instanceMethod yX11_isVoter ∈ gTbl := gT_of (i := 778) (by decide +kernel) (by decide +kernel)
theorem wd_13 : Jvm.Cond.selects RX11 yX11_isVoter yX11_isVoter ∈ gTbl := gT_of (i := 13) (by decide +kernel) (by decide +kernel)
theorem wd_1680 : Jvm.Cond.code yX12_isVoter cX12_isVoter 2 (some .boolean) ∈ gTbl := gT_of (i := 1680) (by decide +kernel) (by decide +kernel)
theorem wd_1677 : Jvm.Cond.methodLink RX12 240 yX12_isVoter ∈ gTbl := gT_of (i := 1677) (by decide +kernel) (by decide +kernel)
theorem wd_1679 : Jvm.Cond.instanceMethod yX12_isVoter ∈ gTbl := gT_of (i := 1679) (by decide +kernel) (by decide +kernel)
theorem wd_70 : Jvm.Cond.selects RX12 yX12_isVoter yX12_isVoter ∈ gTbl := gT_of (i := 70) (by decide +kernel) (by decide +kernel)
theorem wd_791 : Jvm.Cond.code yX11_isSet cX11_isSet 2 (some .boolean) ∈ gTbl := gT_of (i := 791) (by decide +kernel) (by decide +kernel)
theorem wd_788 : Jvm.Cond.methodLink RX11 177 yX11_isSet ∈ gTbl := gT_of (i := 788) (by decide +kernel) (by decide +kernel)
theorem wd_790 : Jvm.Cond.instanceMethod yX11_isSet ∈ gTbl := gT_of (i := 790) (by decide +kernel) (by decide +kernel)
theorem wd_14 : Jvm.Cond.selects RX11 yX11_isSet yX11_isSet ∈ gTbl := gT_of (i := 14) (by decide +kernel) (by decide +kernel)
theorem wd_1700 : Jvm.Cond.code yX12_isSet cX12_isSet 2 (some .boolean) ∈ gTbl := gT_of (i := 1700) (by decide +kernel) (by decide +kernel)
theorem wd_1697 : Jvm.Cond.methodLink RX12 272 yX12_isSet ∈ gTbl := gT_of (i := 1697) (by decide +kernel) (by decide +kernel)
theorem wd_1699 : Jvm.Cond.instanceMethod yX12_isSet ∈ gTbl := gT_of (i := 1699) (by decide +kernel) (by decide +kernel)
theorem wd_73 : Jvm.Cond.selects RX12 yX12_isSet yX12_isSet ∈ gTbl := gT_of (i := 73) (by decide +kernel) (by decide +kernel)
theorem wd_504 : Jvm.Cond.fieldLink RX11 21 "RookHusting" "reader" "LRookHusting$Reader;" ∈ gTbl := gT_of (i := 504) (by decide +kernel) (by decide +kernel)
theorem wd_291 : Jvm.Cond.fieldLink RX11 110 "RookHusting$Reader" "fault" "I" ∈ gTbl := gT_of (i := 291) (by decide +kernel) (by decide +kernel)
theorem wd_293 : Jvm.Cond.fieldLink RX11 136 "RookHusting$Reader" "place" "I" ∈ gTbl := gT_of (i := 293) (by decide +kernel) (by decide +kernel)
theorem wd_1412 : Jvm.Cond.fieldLink RX12 150 "RookHustingModel" "faultKind" "I" ∈ gTbl := gT_of (i := 1412) (by decide +kernel) (by decide +kernel)
theorem wd_1413 : Jvm.Cond.fieldLink RX12 27 "RookHustingModel" "faultPlace" "I" ∈ gTbl := gT_of (i := 1413) (by decide +kernel) (by decide +kernel)
theorem wd_168 : Jvm.Cond.fieldLink RX10 19 "RookHusting$Tape" "at" "I" ∈ gTbl := gT_of (i := 168) (by decide +kernel) (by decide +kernel)
theorem wd_161 : Jvm.Cond.fieldLink RX10 15 "RookHusting$Tape" "length" "I" ∈ gTbl := gT_of (i := 161) (by decide +kernel) (by decide +kernel)
theorem wd_164 : Jvm.Cond.fieldLink RX10 29 "RookHusting$Tape" "start" "I" ∈ gTbl := gT_of (i := 164) (by decide +kernel) (by decide +kernel)
theorem wd_163 : Jvm.Cond.fieldLink RX10 32 "RookHusting$Tape" "kind" "I" ∈ gTbl := gT_of (i := 163) (by decide +kernel) (by decide +kernel)
theorem wd_583 : Jvm.Cond.code yX10_step cX10_step 1 none ∈ gTbl := gT_of (i := 583) (by decide +kernel) (by decide +kernel)
theorem wd_580 : Jvm.Cond.methodLink RX10 22 yX10_step ∈ gTbl := gT_of (i := 580) (by decide +kernel) (by decide +kernel)
theorem wd_126 : Jvm.Cond.initialized RX10 ∈ gTbl := gT_of (i := 126) (by decide +kernel) (by decide +kernel)
theorem wd_581 : Jvm.Cond.instanceMethod yX10_step ∈ gTbl := gT_of (i := 581) (by decide +kernel) (by decide +kernel)
theorem wd_582 : Jvm.Cond.selects RX10 yX10_step yX10_step ∈ gTbl := gT_of (i := 582) (by decide +kernel) (by decide +kernel)
theorem wd_288 : Jvm.Cond.fieldLink RX6 12 "RookHusting$Reader" "draft" "LRookHusting$Hundred;" ∈ gTbl := gT_of (i := 288) (by decide +kernel) (by decide +kernel)
theorem wd_290 : Jvm.Cond.fieldLink RX6 29 "RookHusting$Reader" "fault" "I" ∈ gTbl := gT_of (i := 290) (by decide +kernel) (by decide +kernel)
theorem wd_292 : Jvm.Cond.fieldLink RX6 18 "RookHusting$Reader" "place" "I" ∈ gTbl := gT_of (i := 292) (by decide +kernel) (by decide +kernel)
theorem wd_294 : Jvm.Cond.fieldLink RX6 22 "RookHusting$Reader" "tape" "LRookHusting$Tape;" ∈ gTbl := gT_of (i := 294) (by decide +kernel) (by decide +kernel)
theorem wd_575 : Jvm.Cond.code yX4_clear cX4_clear 1 none ∈ gTbl := gT_of (i := 575) (by decide +kernel) (by decide +kernel)
theorem wd_572 : Jvm.Cond.methodLink RX6 26 yX4_clear ∈ gTbl := gT_of (i := 572) (by decide +kernel) (by decide +kernel)
theorem wd_573 : Jvm.Cond.instanceMethod yX4_clear ∈ gTbl := gT_of (i := 573) (by decide +kernel) (by decide +kernel)
theorem wd_574 : Jvm.Cond.selects RX4 yX4_clear yX4_clear ∈ gTbl := gT_of (i := 574) (by decide +kernel) (by decide +kernel)
theorem wd_579 : Jvm.Cond.code yX10_rewind cX10_rewind 1 none ∈ gTbl := gT_of (i := 579) (by decide +kernel) (by decide +kernel)
theorem wd_576 : Jvm.Cond.methodLink RX6 32 yX10_rewind ∈ gTbl := gT_of (i := 576) (by decide +kernel) (by decide +kernel)
theorem wd_577 : Jvm.Cond.instanceMethod yX10_rewind ∈ gTbl := gT_of (i := 577) (by decide +kernel) (by decide +kernel)
theorem wd_578 : Jvm.Cond.selects RX10 yX10_rewind yX10_rewind ∈ gTbl := gT_of (i := 578) (by decide +kernel) (by decide +kernel)
theorem wd_162 : Jvm.Cond.fieldLink RX6 37 "RookHusting$Tape" "kind" "I" ∈ gTbl := gT_of (i := 162) (by decide +kernel) (by decide +kernel)
theorem wd_516 : Jvm.Cond.fieldLink RX11 448 "RookHusting" "settled" "Z" ∈ gTbl := gT_of (i := 516) (by decide +kernel) (by decide +kernel)
theorem wd_513 : Jvm.Cond.fieldLink RX11 81 "RookHusting" "search" "LRookHusting$PutSearch;" ∈ gTbl := gT_of (i := 513) (by decide +kernel) (by decide +kernel)
theorem wd_460 : Jvm.Cond.fieldLink RX11 452 "RookHusting$PutSearch" "known" "Z" ∈ gTbl := gT_of (i := 460) (by decide +kernel) (by decide +kernel)
theorem wd_517 : Jvm.Cond.fieldLink RX11 455 "RookHusting" "plainKnown" "Z" ∈ gTbl := gT_of (i := 517) (by decide +kernel) (by decide +kernel)
theorem wd_289 : Jvm.Cond.fieldLink RX11 113 "RookHusting$Reader" "draft" "LRookHusting$Hundred;" ∈ gTbl := gT_of (i := 289) (by decide +kernel) (by decide +kernel)
theorem wd_571 : Jvm.Cond.code yX6_begin cX6_begin 1 none ∈ gTbl := gT_of (i := 571) (by decide +kernel) (by decide +kernel)
theorem wd_568 : Jvm.Cond.methodLink RX11 100 yX6_begin ∈ gTbl := gT_of (i := 568) (by decide +kernel) (by decide +kernel)
theorem wd_127 : Jvm.Cond.initialized RX6 ∈ gTbl := gT_of (i := 127) (by decide +kernel) (by decide +kernel)
theorem wd_569 : Jvm.Cond.instanceMethod yX6_begin ∈ gTbl := gT_of (i := 569) (by decide +kernel) (by decide +kernel)
theorem wd_570 : Jvm.Cond.selects RX6 yX6_begin yX6_begin ∈ gTbl := gT_of (i := 570) (by decide +kernel) (by decide +kernel)
theorem wd_600 : Jvm.Cond.code yX6_hasMore cX6_hasMore 1 (some .boolean) ∈ gTbl := gT_of (i := 600) (by decide +kernel) (by decide +kernel)
theorem wd_597 : Jvm.Cond.methodLink RX11 103 yX6_hasMore ∈ gTbl := gT_of (i := 597) (by decide +kernel) (by decide +kernel)
theorem wd_598 : Jvm.Cond.instanceMethod yX6_hasMore ∈ gTbl := gT_of (i := 598) (by decide +kernel) (by decide +kernel)
theorem wd_599 : Jvm.Cond.selects RX6 yX6_hasMore yX6_hasMore ∈ gTbl := gT_of (i := 599) (by decide +kernel) (by decide +kernel)
theorem wd_734 : Jvm.Cond.methodLink RX11 116 yX4_copyFrom ∈ gTbl := gT_of (i := 734) (by decide +kernel) (by decide +kernel)
theorem wd_744 : Jvm.Cond.code yX11_forget cX11_forget 1 none ∈ gTbl := gT_of (i := 744) (by decide +kernel) (by decide +kernel)
theorem wd_741 : Jvm.Cond.methodLink RX11 130 yX11_forget ∈ gTbl := gT_of (i := 741) (by decide +kernel) (by decide +kernel)
theorem wd_743 : Jvm.Cond.instanceMethod yX11_forget ∈ gTbl := gT_of (i := 743) (by decide +kernel) (by decide +kernel)
theorem wd_10 : Jvm.Cond.selects RX11 yX11_forget yX11_forget ∈ gTbl := gT_of (i := 10) (by decide +kernel) (by decide +kernel)
theorem wd_1407 : Jvm.Cond.fieldLink RX12 116 "RookHustingModel" "size" "I" ∈ gTbl := gT_of (i := 1407) (by decide +kernel) (by decide +kernel)
theorem wd_1408 : Jvm.Cond.fieldLink RX12 119 "RookHustingModel" "at" "I" ∈ gTbl := gT_of (i := 1408) (by decide +kernel) (by decide +kernel)
theorem wd_1409 : Jvm.Cond.fieldLink RX12 126 "RookHustingModel" "from" "I" ∈ gTbl := gT_of (i := 1409) (by decide +kernel) (by decide +kernel)
theorem wd_1410 : Jvm.Cond.fieldLink RX12 129 "RookHustingModel" "token" "I" ∈ gTbl := gT_of (i := 1410) (by decide +kernel) (by decide +kernel)
theorem wd_1572 : Jvm.Cond.code yX12_see cX12_see 2 (some .int) ∈ gTbl := gT_of (i := 1572) (by decide +kernel) (by decide +kernel)
theorem wd_1569 : Jvm.Cond.methodLink RX12 122 yX12_see ∈ gTbl := gT_of (i := 1569) (by decide +kernel) (by decide +kernel)
theorem wd_1571 : Jvm.Cond.instanceMethod yX12_see ∈ gTbl := gT_of (i := 1571) (by decide +kernel) (by decide +kernel)
theorem wd_52 : Jvm.Cond.selects RX12 yX12_see yX12_see ∈ gTbl := gT_of (i := 52) (by decide +kernel) (by decide +kernel)
theorem wd_1414 : Jvm.Cond.fieldLink RX12 31 "RookHustingModel" "fresh" "[I" ∈ gTbl := gT_of (i := 1414) (by decide +kernel) (by decide +kernel)
theorem wd_1568 : Jvm.Cond.code yX12_advance cX12_advance 2 none ∈ gTbl := gT_of (i := 1568) (by decide +kernel) (by decide +kernel)
theorem wd_1565 : Jvm.Cond.methodLink RX12 169 yX12_advance ∈ gTbl := gT_of (i := 1565) (by decide +kernel) (by decide +kernel)
theorem wd_1567 : Jvm.Cond.instanceMethod yX12_advance ∈ gTbl := gT_of (i := 1567) (by decide +kernel) (by decide +kernel)
theorem wd_51 : Jvm.Cond.selects RX12 yX12_advance yX12_advance ∈ gTbl := gT_of (i := 51) (by decide +kernel) (by decide +kernel)
theorem wd_1582 : Jvm.Cond.code yX12_good cX12_good 1 (some .boolean) ∈ gTbl := gT_of (i := 1582) (by decide +kernel) (by decide +kernel)
theorem wd_1579 : Jvm.Cond.methodLink RX12 153 yX12_good ∈ gTbl := gT_of (i := 1579) (by decide +kernel) (by decide +kernel)
theorem wd_1581 : Jvm.Cond.instanceMethod yX12_good ∈ gTbl := gT_of (i := 1581) (by decide +kernel) (by decide +kernel)
theorem wd_53 : Jvm.Cond.selects RX12 yX12_good yX12_good ∈ gTbl := gT_of (i := 53) (by decide +kernel) (by decide +kernel)
theorem wd_159 : Jvm.Cond.fieldLink RX10 9 "RookHusting$Tape" "bytes" "[B" ∈ gTbl := gT_of (i := 159) (by decide +kernel) (by decide +kernel)
theorem wd_559 : Jvm.Cond.code yX10_append cX10_append 3 none ∈ gTbl := gT_of (i := 559) (by decide +kernel) (by decide +kernel)
theorem wd_556 : Jvm.Cond.methodLink RX11 96 yX10_append ∈ gTbl := gT_of (i := 556) (by decide +kernel) (by decide +kernel)
theorem wd_557 : Jvm.Cond.instanceMethod yX10_append ∈ gTbl := gT_of (i := 557) (by decide +kernel) (by decide +kernel)
theorem wd_558 : Jvm.Cond.selects RX10 yX10_append yX10_append ∈ gTbl := gT_of (i := 558) (by decide +kernel) (by decide +kernel)
theorem wd_1406 : Jvm.Cond.fieldLink RX12 24 "RookHustingModel" "five" "[I" ∈ gTbl := gT_of (i := 1406) (by decide +kernel) (by decide +kernel)
theorem wd_1404 : Jvm.Cond.fieldLink RX12 20 "RookHustingModel" "tape" "[B" ∈ gTbl := gT_of (i := 1404) (by decide +kernel) (by decide +kernel)
theorem wd_2185 : Jvm.Cond.constantLong RL 301 4294967295 ∈ gTbl := gT_of (i := 2185) (by decide +kernel) (by decide +kernel)
theorem wd_555 : Jvm.Cond.code yX11_feed cX11_feed 6 (some .int) ∈ gTbl := gT_of (i := 555) (by decide +kernel) (by decide +kernel)
theorem wd_552 : Jvm.Cond.methodLink RL 13 yX11_feed ∈ gTbl := gT_of (i := 552) (by decide +kernel) (by decide +kernel)
theorem wd_553 : Jvm.Cond.instanceMethod yX11_feed ∈ gTbl := gT_of (i := 553) (by decide +kernel) (by decide +kernel)
theorem wd_554 : Jvm.Cond.selects RX11 yX11_feed yX11_feed ∈ gTbl := gT_of (i := 554) (by decide +kernel) (by decide +kernel)
theorem wd_1552 : Jvm.Cond.code yX12_feed cX12_feed 7 (some .int) ∈ gTbl := gT_of (i := 1552) (by decide +kernel) (by decide +kernel)
theorem wd_1549 : Jvm.Cond.methodLink RL 17 yX12_feed ∈ gTbl := gT_of (i := 1549) (by decide +kernel) (by decide +kernel)
theorem wd_1550 : Jvm.Cond.instanceMethod yX12_feed ∈ gTbl := gT_of (i := 1550) (by decide +kernel) (by decide +kernel)
theorem wd_1551 : Jvm.Cond.selects RX12 yX12_feed yX12_feed ∈ gTbl := gT_of (i := 1551) (by decide +kernel) (by decide +kernel)
theorem wd_563 : Jvm.Cond.code yX11_end cX11_end 2 (some .int) ∈ gTbl := gT_of (i := 563) (by decide +kernel) (by decide +kernel)
theorem wd_560 : Jvm.Cond.methodLink RL 18 yX11_end ∈ gTbl := gT_of (i := 560) (by decide +kernel) (by decide +kernel)
theorem wd_561 : Jvm.Cond.instanceMethod yX11_end ∈ gTbl := gT_of (i := 561) (by decide +kernel) (by decide +kernel)
theorem wd_562 : Jvm.Cond.selects RX11 yX11_end yX11_end ∈ gTbl := gT_of (i := 562) (by decide +kernel) (by decide +kernel)
theorem wd_1556 : Jvm.Cond.code yX12_end cX12_end 2 (some .int) ∈ gTbl := gT_of (i := 1556) (by decide +kernel) (by decide +kernel)
theorem wd_1553 : Jvm.Cond.methodLink RL 22 yX12_end ∈ gTbl := gT_of (i := 1553) (by decide +kernel) (by decide +kernel)
theorem wd_1554 : Jvm.Cond.instanceMethod yX12_end ∈ gTbl := gT_of (i := 1554) (by decide +kernel) (by decide +kernel)
theorem wd_1555 : Jvm.Cond.selects RX12 yX12_end yX12_end ∈ gTbl := gT_of (i := 1555) (by decide +kernel) (by decide +kernel)
theorem wd_567 : Jvm.Cond.code yX11_hundred cX11_hundred 2 (some .int) ∈ gTbl := gT_of (i := 567) (by decide +kernel) (by decide +kernel)
theorem wd_564 : Jvm.Cond.methodLink RL 23 yX11_hundred ∈ gTbl := gT_of (i := 564) (by decide +kernel) (by decide +kernel)
theorem wd_565 : Jvm.Cond.instanceMethod yX11_hundred ∈ gTbl := gT_of (i := 565) (by decide +kernel) (by decide +kernel)
theorem wd_566 : Jvm.Cond.selects RX11 yX11_hundred yX11_hundred ∈ gTbl := gT_of (i := 566) (by decide +kernel) (by decide +kernel)
theorem wd_1564 : Jvm.Cond.code yX12_hundred cX12_hundred 2 (some .int) ∈ gTbl := gT_of (i := 1564) (by decide +kernel) (by decide +kernel)
theorem wd_1561 : Jvm.Cond.methodLink RL 27 yX12_hundred ∈ gTbl := gT_of (i := 1561) (by decide +kernel) (by decide +kernel)
theorem wd_1562 : Jvm.Cond.instanceMethod yX12_hundred ∈ gTbl := gT_of (i := 1562) (by decide +kernel) (by decide +kernel)
theorem wd_1563 : Jvm.Cond.selects RX12 yX12_hundred yX12_hundred ∈ gTbl := gT_of (i := 1563) (by decide +kernel) (by decide +kernel)
theorem wd_748 : Jvm.Cond.code yX11_fault cX11_fault 2 (some .int) ∈ gTbl := gT_of (i := 748) (by decide +kernel) (by decide +kernel)
theorem wd_745 : Jvm.Cond.methodLink RL 28 yX11_fault ∈ gTbl := gT_of (i := 745) (by decide +kernel) (by decide +kernel)
theorem wd_746 : Jvm.Cond.instanceMethod yX11_fault ∈ gTbl := gT_of (i := 746) (by decide +kernel) (by decide +kernel)
theorem wd_747 : Jvm.Cond.selects RX11 yX11_fault yX11_fault ∈ gTbl := gT_of (i := 747) (by decide +kernel) (by decide +kernel)
theorem wd_1560 : Jvm.Cond.code yX12_fault cX12_fault 2 (some .int) ∈ gTbl := gT_of (i := 1560) (by decide +kernel) (by decide +kernel)
theorem wd_1557 : Jvm.Cond.methodLink RL 31 yX12_fault ∈ gTbl := gT_of (i := 1557) (by decide +kernel) (by decide +kernel)
theorem wd_1558 : Jvm.Cond.instanceMethod yX12_fault ∈ gTbl := gT_of (i := 1558) (by decide +kernel) (by decide +kernel)
theorem wd_1559 : Jvm.Cond.selects RX12 yX12_fault yX12_fault ∈ gTbl := gT_of (i := 1559) (by decide +kernel) (by decide +kernel)
theorem wd_752 : Jvm.Cond.code yX11_field cX11_field 3 (some .int) ∈ gTbl := gT_of (i := 752) (by decide +kernel) (by decide +kernel)
theorem wd_749 : Jvm.Cond.methodLink RL 32 yX11_field ∈ gTbl := gT_of (i := 749) (by decide +kernel) (by decide +kernel)
theorem wd_750 : Jvm.Cond.instanceMethod yX11_field ∈ gTbl := gT_of (i := 750) (by decide +kernel) (by decide +kernel)
theorem wd_751 : Jvm.Cond.selects RX11 yX11_field yX11_field ∈ gTbl := gT_of (i := 751) (by decide +kernel) (by decide +kernel)
theorem wd_1652 : Jvm.Cond.code yX12_field cX12_field 3 (some .int) ∈ gTbl := gT_of (i := 1652) (by decide +kernel) (by decide +kernel)
theorem wd_1649 : Jvm.Cond.methodLink RL 36 yX12_field ∈ gTbl := gT_of (i := 1649) (by decide +kernel) (by decide +kernel)
theorem wd_1650 : Jvm.Cond.instanceMethod yX12_field ∈ gTbl := gT_of (i := 1650) (by decide +kernel) (by decide +kernel)
theorem wd_1651 : Jvm.Cond.selects RX12 yX12_field yX12_field ∈ gTbl := gT_of (i := 1651) (by decide +kernel) (by decide +kernel)
theorem wd_763 : Jvm.Cond.code yX11_hedges cX11_hedges 2 (some .int) ∈ gTbl := gT_of (i := 763) (by decide +kernel) (by decide +kernel)
theorem wd_760 : Jvm.Cond.methodLink RL 37 yX11_hedges ∈ gTbl := gT_of (i := 760) (by decide +kernel) (by decide +kernel)
theorem wd_761 : Jvm.Cond.instanceMethod yX11_hedges ∈ gTbl := gT_of (i := 761) (by decide +kernel) (by decide +kernel)
theorem wd_762 : Jvm.Cond.selects RX11 yX11_hedges yX11_hedges ∈ gTbl := gT_of (i := 762) (by decide +kernel) (by decide +kernel)
theorem wd_1861 : Jvm.Cond.code yX12_hedges cX12_hedges 2 (some .int) ∈ gTbl := gT_of (i := 1861) (by decide +kernel) (by decide +kernel)
theorem wd_1858 : Jvm.Cond.methodLink RL 40 yX12_hedges ∈ gTbl := gT_of (i := 1858) (by decide +kernel) (by decide +kernel)
theorem wd_1859 : Jvm.Cond.instanceMethod yX12_hedges ∈ gTbl := gT_of (i := 1859) (by decide +kernel) (by decide +kernel)
theorem wd_1860 : Jvm.Cond.selects RX12 yX12_hedges yX12_hedges ∈ gTbl := gT_of (i := 1860) (by decide +kernel) (by decide +kernel)
theorem wd_767 : Jvm.Cond.code yX11_man cX11_man 3 (some .int) ∈ gTbl := gT_of (i := 767) (by decide +kernel) (by decide +kernel)
theorem wd_764 : Jvm.Cond.methodLink RL 41 yX11_man ∈ gTbl := gT_of (i := 764) (by decide +kernel) (by decide +kernel)
theorem wd_765 : Jvm.Cond.instanceMethod yX11_man ∈ gTbl := gT_of (i := 765) (by decide +kernel) (by decide +kernel)
theorem wd_766 : Jvm.Cond.selects RX11 yX11_man yX11_man ∈ gTbl := gT_of (i := 766) (by decide +kernel) (by decide +kernel)
theorem wd_1664 : Jvm.Cond.code yX12_man cX12_man 3 (some .int) ∈ gTbl := gT_of (i := 1664) (by decide +kernel) (by decide +kernel)
theorem wd_1661 : Jvm.Cond.methodLink RL 44 yX12_man ∈ gTbl := gT_of (i := 1661) (by decide +kernel) (by decide +kernel)
theorem wd_1662 : Jvm.Cond.instanceMethod yX12_man ∈ gTbl := gT_of (i := 1662) (by decide +kernel) (by decide +kernel)
theorem wd_1663 : Jvm.Cond.selects RX12 yX12_man yX12_man ∈ gTbl := gT_of (i := 1663) (by decide +kernel) (by decide +kernel)
theorem wd_775 : Jvm.Cond.code yX11_hats cX11_hats 2 (some .int) ∈ gTbl := gT_of (i := 775) (by decide +kernel) (by decide +kernel)
theorem wd_772 : Jvm.Cond.methodLink RL 45 yX11_hats ∈ gTbl := gT_of (i := 772) (by decide +kernel) (by decide +kernel)
theorem wd_773 : Jvm.Cond.instanceMethod yX11_hats ∈ gTbl := gT_of (i := 773) (by decide +kernel) (by decide +kernel)
theorem wd_774 : Jvm.Cond.selects RX11 yX11_hats yX11_hats ∈ gTbl := gT_of (i := 774) (by decide +kernel) (by decide +kernel)
theorem wd_1676 : Jvm.Cond.code yX12_hats cX12_hats 2 (some .int) ∈ gTbl := gT_of (i := 1676) (by decide +kernel) (by decide +kernel)
theorem wd_1673 : Jvm.Cond.methodLink RL 48 yX12_hats ∈ gTbl := gT_of (i := 1673) (by decide +kernel) (by decide +kernel)
theorem wd_1674 : Jvm.Cond.instanceMethod yX12_hats ∈ gTbl := gT_of (i := 1674) (by decide +kernel) (by decide +kernel)
theorem wd_1675 : Jvm.Cond.selects RX12 yX12_hats yX12_hats ∈ gTbl := gT_of (i := 1675) (by decide +kernel) (by decide +kernel)
theorem wd_783 : Jvm.Cond.code yX11_wants cX11_wants 3 (some .int) ∈ gTbl := gT_of (i := 783) (by decide +kernel) (by decide +kernel)
theorem wd_780 : Jvm.Cond.methodLink RL 49 yX11_wants ∈ gTbl := gT_of (i := 780) (by decide +kernel) (by decide +kernel)
theorem wd_781 : Jvm.Cond.instanceMethod yX11_wants ∈ gTbl := gT_of (i := 781) (by decide +kernel) (by decide +kernel)
theorem wd_782 : Jvm.Cond.selects RX11 yX11_wants yX11_wants ∈ gTbl := gT_of (i := 782) (by decide +kernel) (by decide +kernel)
theorem wd_1688 : Jvm.Cond.code yX12_wants cX12_wants 3 (some .int) ∈ gTbl := gT_of (i := 1688) (by decide +kernel) (by decide +kernel)
theorem wd_1685 : Jvm.Cond.methodLink RL 52 yX12_wants ∈ gTbl := gT_of (i := 1685) (by decide +kernel) (by decide +kernel)
theorem wd_1686 : Jvm.Cond.instanceMethod yX12_wants ∈ gTbl := gT_of (i := 1686) (by decide +kernel) (by decide +kernel)
theorem wd_1687 : Jvm.Cond.selects RX12 yX12_wants yX12_wants ∈ gTbl := gT_of (i := 1687) (by decide +kernel) (by decide +kernel)
theorem wd_787 : Jvm.Cond.code yX11_votes cX11_votes 4 (some .int) ∈ gTbl := gT_of (i := 787) (by decide +kernel) (by decide +kernel)
theorem wd_784 : Jvm.Cond.methodLink RL 53 yX11_votes ∈ gTbl := gT_of (i := 784) (by decide +kernel) (by decide +kernel)
theorem wd_785 : Jvm.Cond.instanceMethod yX11_votes ∈ gTbl := gT_of (i := 785) (by decide +kernel) (by decide +kernel)
theorem wd_786 : Jvm.Cond.selects RX11 yX11_votes yX11_votes ∈ gTbl := gT_of (i := 786) (by decide +kernel) (by decide +kernel)
theorem wd_1696 : Jvm.Cond.code yX12_votes cX12_votes 4 (some .int) ∈ gTbl := gT_of (i := 1696) (by decide +kernel) (by decide +kernel)
theorem wd_1693 : Jvm.Cond.methodLink RL 57 yX12_votes ∈ gTbl := gT_of (i := 1693) (by decide +kernel) (by decide +kernel)
theorem wd_1694 : Jvm.Cond.instanceMethod yX12_votes ∈ gTbl := gT_of (i := 1694) (by decide +kernel) (by decide +kernel)
theorem wd_1695 : Jvm.Cond.selects RX12 yX12_votes yX12_votes ∈ gTbl := gT_of (i := 1695) (by decide +kernel) (by decide +kernel)
theorem wd_813 : Jvm.Cond.code yX11_elects cX11_elects 3 (some .int) ∈ gTbl := gT_of (i := 813) (by decide +kernel) (by decide +kernel)
theorem wd_810 : Jvm.Cond.methodLink RL 58 yX11_elects ∈ gTbl := gT_of (i := 810) (by decide +kernel) (by decide +kernel)
theorem wd_811 : Jvm.Cond.instanceMethod yX11_elects ∈ gTbl := gT_of (i := 811) (by decide +kernel) (by decide +kernel)
theorem wd_812 : Jvm.Cond.selects RX11 yX11_elects yX11_elects ∈ gTbl := gT_of (i := 812) (by decide +kernel) (by decide +kernel)
theorem wd_1724 : Jvm.Cond.code yX12_elects cX12_elects 3 (some .int) ∈ gTbl := gT_of (i := 1724) (by decide +kernel) (by decide +kernel)
theorem wd_1721 : Jvm.Cond.methodLink RL 61 yX12_elects ∈ gTbl := gT_of (i := 1721) (by decide +kernel) (by decide +kernel)
theorem wd_1722 : Jvm.Cond.instanceMethod yX12_elects ∈ gTbl := gT_of (i := 1722) (by decide +kernel) (by decide +kernel)
theorem wd_1723 : Jvm.Cond.selects RX12 yX12_elects yX12_elects ∈ gTbl := gT_of (i := 1723) (by decide +kernel) (by decide +kernel)
theorem wd_832 : Jvm.Cond.code yX11_elected cX11_elected 2 (some .int) ∈ gTbl := gT_of (i := 832) (by decide +kernel) (by decide +kernel)
theorem wd_829 : Jvm.Cond.methodLink RL 62 yX11_elected ∈ gTbl := gT_of (i := 829) (by decide +kernel) (by decide +kernel)
theorem wd_830 : Jvm.Cond.instanceMethod yX11_elected ∈ gTbl := gT_of (i := 830) (by decide +kernel) (by decide +kernel)
theorem wd_831 : Jvm.Cond.selects RX11 yX11_elected yX11_elected ∈ gTbl := gT_of (i := 831) (by decide +kernel) (by decide +kernel)
theorem wd_1740 : Jvm.Cond.code yX12_elected cX12_elected 2 (some .int) ∈ gTbl := gT_of (i := 1740) (by decide +kernel) (by decide +kernel)
theorem wd_1737 : Jvm.Cond.methodLink RL 65 yX12_elected ∈ gTbl := gT_of (i := 1737) (by decide +kernel) (by decide +kernel)
theorem wd_1738 : Jvm.Cond.instanceMethod yX12_elected ∈ gTbl := gT_of (i := 1738) (by decide +kernel) (by decide +kernel)
theorem wd_1739 : Jvm.Cond.selects RX12 yX12_elected yX12_elected ∈ gTbl := gT_of (i := 1739) (by decide +kernel) (by decide +kernel)
theorem wd_845 : Jvm.Cond.code yX11_stands cX11_stands 2 (some .int) ∈ gTbl := gT_of (i := 845) (by decide +kernel) (by decide +kernel)
theorem wd_842 : Jvm.Cond.methodLink RL 66 yX11_stands ∈ gTbl := gT_of (i := 842) (by decide +kernel) (by decide +kernel)
theorem wd_843 : Jvm.Cond.instanceMethod yX11_stands ∈ gTbl := gT_of (i := 843) (by decide +kernel) (by decide +kernel)
theorem wd_844 : Jvm.Cond.selects RX11 yX11_stands yX11_stands ∈ gTbl := gT_of (i := 844) (by decide +kernel) (by decide +kernel)
theorem wd_1833 : Jvm.Cond.code yX12_stands cX12_stands 2 (some .int) ∈ gTbl := gT_of (i := 1833) (by decide +kernel) (by decide +kernel)
theorem wd_1830 : Jvm.Cond.methodLink RL 69 yX12_stands ∈ gTbl := gT_of (i := 1830) (by decide +kernel) (by decide +kernel)
theorem wd_1831 : Jvm.Cond.instanceMethod yX12_stands ∈ gTbl := gT_of (i := 1831) (by decide +kernel) (by decide +kernel)
theorem wd_1832 : Jvm.Cond.selects RX12 yX12_stands yX12_stands ∈ gTbl := gT_of (i := 1832) (by decide +kernel) (by decide +kernel)
theorem wd_895 : Jvm.Cond.code yX11_where cX11_where 2 (some .int) ∈ gTbl := gT_of (i := 895) (by decide +kernel) (by decide +kernel)
theorem wd_892 : Jvm.Cond.methodLink RL 70 yX11_where ∈ gTbl := gT_of (i := 892) (by decide +kernel) (by decide +kernel)
theorem wd_893 : Jvm.Cond.instanceMethod yX11_where ∈ gTbl := gT_of (i := 893) (by decide +kernel) (by decide +kernel)
theorem wd_894 : Jvm.Cond.selects RX11 yX11_where yX11_where ∈ gTbl := gT_of (i := 894) (by decide +kernel) (by decide +kernel)
theorem wd_1853 : Jvm.Cond.code yX12_where cX12_where 3 (some .int) ∈ gTbl := gT_of (i := 1853) (by decide +kernel) (by decide +kernel)
theorem wd_1850 : Jvm.Cond.methodLink RL 73 yX12_where ∈ gTbl := gT_of (i := 1850) (by decide +kernel) (by decide +kernel)
theorem wd_1851 : Jvm.Cond.instanceMethod yX12_where ∈ gTbl := gT_of (i := 1851) (by decide +kernel) (by decide +kernel)
theorem wd_1852 : Jvm.Cond.selects RX12 yX12_where yX12_where ∈ gTbl := gT_of (i := 1852) (by decide +kernel) (by decide +kernel)
theorem wd_900 : Jvm.Cond.code yX11_over cX11_over 3 (some .int) ∈ gTbl := gT_of (i := 900) (by decide +kernel) (by decide +kernel)
theorem wd_897 : Jvm.Cond.methodLink RL 74 yX11_over ∈ gTbl := gT_of (i := 897) (by decide +kernel) (by decide +kernel)
theorem wd_898 : Jvm.Cond.instanceMethod yX11_over ∈ gTbl := gT_of (i := 898) (by decide +kernel) (by decide +kernel)
theorem wd_899 : Jvm.Cond.selects RX11 yX11_over yX11_over ∈ gTbl := gT_of (i := 899) (by decide +kernel) (by decide +kernel)
theorem wd_1748 : Jvm.Cond.code yX12_over cX12_over 3 (some .int) ∈ gTbl := gT_of (i := 1748) (by decide +kernel) (by decide +kernel)
theorem wd_1745 : Jvm.Cond.methodLink RL 77 yX12_over ∈ gTbl := gT_of (i := 1745) (by decide +kernel) (by decide +kernel)
theorem wd_1746 : Jvm.Cond.instanceMethod yX12_over ∈ gTbl := gT_of (i := 1746) (by decide +kernel) (by decide +kernel)
theorem wd_1747 : Jvm.Cond.selects RX12 yX12_over yX12_over ∈ gTbl := gT_of (i := 1747) (by decide +kernel) (by decide +kernel)
theorem wd_912 : Jvm.Cond.code yX11_beats cX11_beats 1 (some .int) ∈ gTbl := gT_of (i := 912) (by decide +kernel) (by decide +kernel)
theorem wd_909 : Jvm.Cond.methodLink RL 78 yX11_beats ∈ gTbl := gT_of (i := 909) (by decide +kernel) (by decide +kernel)
theorem wd_910 : Jvm.Cond.instanceMethod yX11_beats ∈ gTbl := gT_of (i := 910) (by decide +kernel) (by decide +kernel)
theorem wd_911 : Jvm.Cond.selects RX11 yX11_beats yX11_beats ∈ gTbl := gT_of (i := 911) (by decide +kernel) (by decide +kernel)
theorem wd_1760 : Jvm.Cond.code yX12_beats cX12_beats 4 (some .int) ∈ gTbl := gT_of (i := 1760) (by decide +kernel) (by decide +kernel)
theorem wd_1757 : Jvm.Cond.methodLink RL 81 yX12_beats ∈ gTbl := gT_of (i := 1757) (by decide +kernel) (by decide +kernel)
theorem wd_1758 : Jvm.Cond.instanceMethod yX12_beats ∈ gTbl := gT_of (i := 1758) (by decide +kernel) (by decide +kernel)
theorem wd_1759 : Jvm.Cond.selects RX12 yX12_beats yX12_beats ∈ gTbl := gT_of (i := 1759) (by decide +kernel) (by decide +kernel)
theorem wd_925 : Jvm.Cond.code yX11_rings cX11_rings 1 (some .int) ∈ gTbl := gT_of (i := 925) (by decide +kernel) (by decide +kernel)
theorem wd_922 : Jvm.Cond.methodLink RL 82 yX11_rings ∈ gTbl := gT_of (i := 922) (by decide +kernel) (by decide +kernel)
theorem wd_923 : Jvm.Cond.instanceMethod yX11_rings ∈ gTbl := gT_of (i := 923) (by decide +kernel) (by decide +kernel)
theorem wd_924 : Jvm.Cond.selects RX11 yX11_rings yX11_rings ∈ gTbl := gT_of (i := 924) (by decide +kernel) (by decide +kernel)
theorem wd_1768 : Jvm.Cond.code yX12_rings cX12_rings 5 (some .int) ∈ gTbl := gT_of (i := 1768) (by decide +kernel) (by decide +kernel)
theorem wd_1765 : Jvm.Cond.methodLink RL 85 yX12_rings ∈ gTbl := gT_of (i := 1765) (by decide +kernel) (by decide +kernel)
theorem wd_1766 : Jvm.Cond.instanceMethod yX12_rings ∈ gTbl := gT_of (i := 1766) (by decide +kernel) (by decide +kernel)
theorem wd_1767 : Jvm.Cond.selects RX12 yX12_rings yX12_rings ∈ gTbl := gT_of (i := 1767) (by decide +kernel) (by decide +kernel)
theorem wd_937 : Jvm.Cond.code yX11_least cX11_least 2 (some .int) ∈ gTbl := gT_of (i := 937) (by decide +kernel) (by decide +kernel)
theorem wd_934 : Jvm.Cond.methodLink RL 86 yX11_least ∈ gTbl := gT_of (i := 934) (by decide +kernel) (by decide +kernel)
theorem wd_935 : Jvm.Cond.instanceMethod yX11_least ∈ gTbl := gT_of (i := 935) (by decide +kernel) (by decide +kernel)
theorem wd_936 : Jvm.Cond.selects RX11 yX11_least yX11_least ∈ gTbl := gT_of (i := 936) (by decide +kernel) (by decide +kernel)
theorem wd_1776 : Jvm.Cond.code yX12_least cX12_least 3 (some .int) ∈ gTbl := gT_of (i := 1776) (by decide +kernel) (by decide +kernel)
theorem wd_1773 : Jvm.Cond.methodLink RL 89 yX12_least ∈ gTbl := gT_of (i := 1773) (by decide +kernel) (by decide +kernel)
theorem wd_1774 : Jvm.Cond.instanceMethod yX12_least ∈ gTbl := gT_of (i := 1774) (by decide +kernel) (by decide +kernel)
theorem wd_1775 : Jvm.Cond.selects RX12 yX12_least yX12_least ∈ gTbl := gT_of (i := 1775) (by decide +kernel) (by decide +kernel)
theorem wd_953 : Jvm.Cond.code yX11_gains cX11_gains 2 (some .int) ∈ gTbl := gT_of (i := 953) (by decide +kernel) (by decide +kernel)
theorem wd_950 : Jvm.Cond.methodLink RL 90 yX11_gains ∈ gTbl := gT_of (i := 950) (by decide +kernel) (by decide +kernel)
theorem wd_951 : Jvm.Cond.instanceMethod yX11_gains ∈ gTbl := gT_of (i := 951) (by decide +kernel) (by decide +kernel)
theorem wd_952 : Jvm.Cond.selects RX11 yX11_gains yX11_gains ∈ gTbl := gT_of (i := 952) (by decide +kernel) (by decide +kernel)
theorem wd_1785 : Jvm.Cond.code yX12_gains cX12_gains 2 (some .int) ∈ gTbl := gT_of (i := 1785) (by decide +kernel) (by decide +kernel)
theorem wd_1782 : Jvm.Cond.methodLink RL 93 yX12_gains ∈ gTbl := gT_of (i := 1782) (by decide +kernel) (by decide +kernel)
theorem wd_1783 : Jvm.Cond.instanceMethod yX12_gains ∈ gTbl := gT_of (i := 1783) (by decide +kernel) (by decide +kernel)
theorem wd_1784 : Jvm.Cond.selects RX12 yX12_gains yX12_gains ∈ gTbl := gT_of (i := 1784) (by decide +kernel) (by decide +kernel)
theorem wd_970 : Jvm.Cond.code yX11_plain cX11_plain 1 (some .int) ∈ gTbl := gT_of (i := 970) (by decide +kernel) (by decide +kernel)
theorem wd_967 : Jvm.Cond.methodLink RL 94 yX11_plain ∈ gTbl := gT_of (i := 967) (by decide +kernel) (by decide +kernel)
theorem wd_968 : Jvm.Cond.instanceMethod yX11_plain ∈ gTbl := gT_of (i := 968) (by decide +kernel) (by decide +kernel)
theorem wd_969 : Jvm.Cond.selects RX11 yX11_plain yX11_plain ∈ gTbl := gT_of (i := 969) (by decide +kernel) (by decide +kernel)
theorem wd_1797 : Jvm.Cond.code yX12_plain cX12_plain 3 (some .int) ∈ gTbl := gT_of (i := 1797) (by decide +kernel) (by decide +kernel)
theorem wd_1794 : Jvm.Cond.methodLink RL 97 yX12_plain ∈ gTbl := gT_of (i := 1794) (by decide +kernel) (by decide +kernel)
theorem wd_1795 : Jvm.Cond.instanceMethod yX12_plain ∈ gTbl := gT_of (i := 1795) (by decide +kernel) (by decide +kernel)
theorem wd_1796 : Jvm.Cond.selects RX12 yX12_plain yX12_plain ∈ gTbl := gT_of (i := 1796) (by decide +kernel) (by decide +kernel)
theorem wd_974 : Jvm.Cond.code yX11_power cX11_power 3 (some .int) ∈ gTbl := gT_of (i := 974) (by decide +kernel) (by decide +kernel)
theorem wd_971 : Jvm.Cond.methodLink RL 98 yX11_power ∈ gTbl := gT_of (i := 971) (by decide +kernel) (by decide +kernel)
theorem wd_972 : Jvm.Cond.instanceMethod yX11_power ∈ gTbl := gT_of (i := 972) (by decide +kernel) (by decide +kernel)
theorem wd_973 : Jvm.Cond.selects RX11 yX11_power yX11_power ∈ gTbl := gT_of (i := 973) (by decide +kernel) (by decide +kernel)
theorem wd_1801 : Jvm.Cond.code yX12_power cX12_power 8 (some .int) ∈ gTbl := gT_of (i := 1801) (by decide +kernel) (by decide +kernel)
theorem wd_1798 : Jvm.Cond.methodLink RL 101 yX12_power ∈ gTbl := gT_of (i := 1798) (by decide +kernel) (by decide +kernel)
theorem wd_1799 : Jvm.Cond.instanceMethod yX12_power ∈ gTbl := gT_of (i := 1799) (by decide +kernel) (by decide +kernel)
theorem wd_1800 : Jvm.Cond.selects RX12 yX12_power yX12_power ∈ gTbl := gT_of (i := 1800) (by decide +kernel) (by decide +kernel)
theorem wd_1015 : Jvm.Cond.code yX11_fear cX11_fear 3 (some .int) ∈ gTbl := gT_of (i := 1015) (by decide +kernel) (by decide +kernel)
theorem wd_1012 : Jvm.Cond.methodLink RL 102 yX11_fear ∈ gTbl := gT_of (i := 1012) (by decide +kernel) (by decide +kernel)
theorem wd_1013 : Jvm.Cond.instanceMethod yX11_fear ∈ gTbl := gT_of (i := 1013) (by decide +kernel) (by decide +kernel)
theorem wd_1014 : Jvm.Cond.selects RX11 yX11_fear yX11_fear ∈ gTbl := gT_of (i := 1014) (by decide +kernel) (by decide +kernel)
theorem wd_1869 : Jvm.Cond.code yX12_fear cX12_fear 3 (some .int) ∈ gTbl := gT_of (i := 1869) (by decide +kernel) (by decide +kernel)
theorem wd_1866 : Jvm.Cond.methodLink RL 105 yX12_fear ∈ gTbl := gT_of (i := 1866) (by decide +kernel) (by decide +kernel)
theorem wd_1867 : Jvm.Cond.instanceMethod yX12_fear ∈ gTbl := gT_of (i := 1867) (by decide +kernel) (by decide +kernel)
theorem wd_1868 : Jvm.Cond.selects RX12 yX12_fear yX12_fear ∈ gTbl := gT_of (i := 1868) (by decide +kernel) (by decide +kernel)
theorem wd_1027 : Jvm.Cond.code yX11_rooks cX11_rooks 3 (some .int) ∈ gTbl := gT_of (i := 1027) (by decide +kernel) (by decide +kernel)
theorem wd_1024 : Jvm.Cond.methodLink RL 106 yX11_rooks ∈ gTbl := gT_of (i := 1024) (by decide +kernel) (by decide +kernel)
theorem wd_1025 : Jvm.Cond.instanceMethod yX11_rooks ∈ gTbl := gT_of (i := 1025) (by decide +kernel) (by decide +kernel)
theorem wd_1026 : Jvm.Cond.selects RX11 yX11_rooks yX11_rooks ∈ gTbl := gT_of (i := 1026) (by decide +kernel) (by decide +kernel)
theorem wd_1906 : Jvm.Cond.code yX12_rooks cX12_rooks 3 (some .int) ∈ gTbl := gT_of (i := 1906) (by decide +kernel) (by decide +kernel)
theorem wd_1903 : Jvm.Cond.methodLink RL 109 yX12_rooks ∈ gTbl := gT_of (i := 1903) (by decide +kernel) (by decide +kernel)
theorem wd_1904 : Jvm.Cond.instanceMethod yX12_rooks ∈ gTbl := gT_of (i := 1904) (by decide +kernel) (by decide +kernel)
theorem wd_1905 : Jvm.Cond.selects RX12 yX12_rooks yX12_rooks ∈ gTbl := gT_of (i := 1905) (by decide +kernel) (by decide +kernel)
theorem wd_1031 : Jvm.Cond.code yX11_corn cX11_corn 3 (some .int) ∈ gTbl := gT_of (i := 1031) (by decide +kernel) (by decide +kernel)
theorem wd_1028 : Jvm.Cond.methodLink RL 110 yX11_corn ∈ gTbl := gT_of (i := 1028) (by decide +kernel) (by decide +kernel)
theorem wd_1029 : Jvm.Cond.instanceMethod yX11_corn ∈ gTbl := gT_of (i := 1029) (by decide +kernel) (by decide +kernel)
theorem wd_1030 : Jvm.Cond.selects RX11 yX11_corn yX11_corn ∈ gTbl := gT_of (i := 1030) (by decide +kernel) (by decide +kernel)
theorem wd_1910 : Jvm.Cond.code yX12_corn cX12_corn 3 (some .int) ∈ gTbl := gT_of (i := 1910) (by decide +kernel) (by decide +kernel)
theorem wd_1907 : Jvm.Cond.methodLink RL 113 yX12_corn ∈ gTbl := gT_of (i := 1907) (by decide +kernel) (by decide +kernel)
theorem wd_1908 : Jvm.Cond.instanceMethod yX12_corn ∈ gTbl := gT_of (i := 1908) (by decide +kernel) (by decide +kernel)
theorem wd_1909 : Jvm.Cond.selects RX12 yX12_corn yX12_corn ∈ gTbl := gT_of (i := 1909) (by decide +kernel) (by decide +kernel)
theorem wd_1035 : Jvm.Cond.code yX11_eaten cX11_eaten 3 (some .int) ∈ gTbl := gT_of (i := 1035) (by decide +kernel) (by decide +kernel)
theorem wd_1032 : Jvm.Cond.methodLink RL 114 yX11_eaten ∈ gTbl := gT_of (i := 1032) (by decide +kernel) (by decide +kernel)
theorem wd_1033 : Jvm.Cond.instanceMethod yX11_eaten ∈ gTbl := gT_of (i := 1033) (by decide +kernel) (by decide +kernel)
theorem wd_1034 : Jvm.Cond.selects RX11 yX11_eaten yX11_eaten ∈ gTbl := gT_of (i := 1034) (by decide +kernel) (by decide +kernel)
theorem wd_1914 : Jvm.Cond.code yX12_eaten cX12_eaten 3 (some .int) ∈ gTbl := gT_of (i := 1914) (by decide +kernel) (by decide +kernel)
theorem wd_1911 : Jvm.Cond.methodLink RL 117 yX12_eaten ∈ gTbl := gT_of (i := 1911) (by decide +kernel) (by decide +kernel)
theorem wd_1912 : Jvm.Cond.instanceMethod yX12_eaten ∈ gTbl := gT_of (i := 1912) (by decide +kernel) (by decide +kernel)
theorem wd_1913 : Jvm.Cond.selects RX12 yX12_eaten yX12_eaten ∈ gTbl := gT_of (i := 1913) (by decide +kernel) (by decide +kernel)
theorem wd_1043 : Jvm.Cond.code yX11_flies cX11_flies 3 (some .int) ∈ gTbl := gT_of (i := 1043) (by decide +kernel) (by decide +kernel)
theorem wd_1040 : Jvm.Cond.methodLink RL 118 yX11_flies ∈ gTbl := gT_of (i := 1040) (by decide +kernel) (by decide +kernel)
theorem wd_1041 : Jvm.Cond.instanceMethod yX11_flies ∈ gTbl := gT_of (i := 1041) (by decide +kernel) (by decide +kernel)
theorem wd_1042 : Jvm.Cond.selects RX11 yX11_flies yX11_flies ∈ gTbl := gT_of (i := 1042) (by decide +kernel) (by decide +kernel)
theorem wd_1926 : Jvm.Cond.code yX12_flies cX12_flies 3 (some .int) ∈ gTbl := gT_of (i := 1926) (by decide +kernel) (by decide +kernel)
theorem wd_1923 : Jvm.Cond.methodLink RL 121 yX12_flies ∈ gTbl := gT_of (i := 1923) (by decide +kernel) (by decide +kernel)
theorem wd_1924 : Jvm.Cond.instanceMethod yX12_flies ∈ gTbl := gT_of (i := 1924) (by decide +kernel) (by decide +kernel)
theorem wd_1925 : Jvm.Cond.selects RX12 yX12_flies yX12_flies ∈ gTbl := gT_of (i := 1925) (by decide +kernel) (by decide +kernel)
theorem wd_1047 : Jvm.Cond.code yX11_all cX11_all 2 (some .int) ∈ gTbl := gT_of (i := 1047) (by decide +kernel) (by decide +kernel)
theorem wd_1044 : Jvm.Cond.methodLink RL 122 yX11_all ∈ gTbl := gT_of (i := 1044) (by decide +kernel) (by decide +kernel)
theorem wd_1045 : Jvm.Cond.instanceMethod yX11_all ∈ gTbl := gT_of (i := 1045) (by decide +kernel) (by decide +kernel)
theorem wd_1046 : Jvm.Cond.selects RX11 yX11_all yX11_all ∈ gTbl := gT_of (i := 1046) (by decide +kernel) (by decide +kernel)
theorem wd_1930 : Jvm.Cond.code yX12_all cX12_all 2 (some .int) ∈ gTbl := gT_of (i := 1930) (by decide +kernel) (by decide +kernel)
theorem wd_1927 : Jvm.Cond.methodLink RL 125 yX12_all ∈ gTbl := gT_of (i := 1927) (by decide +kernel) (by decide +kernel)
theorem wd_1928 : Jvm.Cond.instanceMethod yX12_all ∈ gTbl := gT_of (i := 1928) (by decide +kernel) (by decide +kernel)
theorem wd_1929 : Jvm.Cond.selects RX12 yX12_all yX12_all ∈ gTbl := gT_of (i := 1929) (by decide +kernel) (by decide +kernel)
theorem wd_1059 : Jvm.Cond.code yX11_black cX11_black 2 (some .int) ∈ gTbl := gT_of (i := 1059) (by decide +kernel) (by decide +kernel)
theorem wd_1056 : Jvm.Cond.methodLink RL 126 yX11_black ∈ gTbl := gT_of (i := 1056) (by decide +kernel) (by decide +kernel)
theorem wd_1057 : Jvm.Cond.instanceMethod yX11_black ∈ gTbl := gT_of (i := 1057) (by decide +kernel) (by decide +kernel)
theorem wd_1058 : Jvm.Cond.selects RX11 yX11_black yX11_black ∈ gTbl := gT_of (i := 1058) (by decide +kernel) (by decide +kernel)
theorem wd_1938 : Jvm.Cond.code yX12_black cX12_black 4 (some .int) ∈ gTbl := gT_of (i := 1938) (by decide +kernel) (by decide +kernel)
theorem wd_1935 : Jvm.Cond.methodLink RL 129 yX12_black ∈ gTbl := gT_of (i := 1935) (by decide +kernel) (by decide +kernel)
theorem wd_1936 : Jvm.Cond.instanceMethod yX12_black ∈ gTbl := gT_of (i := 1936) (by decide +kernel) (by decide +kernel)
theorem wd_1937 : Jvm.Cond.selects RX12 yX12_black yX12_black ∈ gTbl := gT_of (i := 1937) (by decide +kernel) (by decide +kernel)
theorem wd_1075 : Jvm.Cond.code yX11_shoulder cX11_shoulder 2 (some .int) ∈ gTbl := gT_of (i := 1075) (by decide +kernel) (by decide +kernel)
theorem wd_1072 : Jvm.Cond.methodLink RL 130 yX11_shoulder ∈ gTbl := gT_of (i := 1072) (by decide +kernel) (by decide +kernel)
theorem wd_1073 : Jvm.Cond.instanceMethod yX11_shoulder ∈ gTbl := gT_of (i := 1073) (by decide +kernel) (by decide +kernel)
theorem wd_1074 : Jvm.Cond.selects RX11 yX11_shoulder yX11_shoulder ∈ gTbl := gT_of (i := 1074) (by decide +kernel) (by decide +kernel)
theorem wd_1942 : Jvm.Cond.code yX12_shoulder cX12_shoulder 3 (some .int) ∈ gTbl := gT_of (i := 1942) (by decide +kernel) (by decide +kernel)
theorem wd_1939 : Jvm.Cond.methodLink RL 133 yX12_shoulder ∈ gTbl := gT_of (i := 1939) (by decide +kernel) (by decide +kernel)
theorem wd_1940 : Jvm.Cond.instanceMethod yX12_shoulder ∈ gTbl := gT_of (i := 1940) (by decide +kernel) (by decide +kernel)
theorem wd_1941 : Jvm.Cond.selects RX12 yX12_shoulder yX12_shoulder ∈ gTbl := gT_of (i := 1941) (by decide +kernel) (by decide +kernel)
theorem wd_1087 : Jvm.Cond.code yX11_bare cX11_bare 2 (some .int) ∈ gTbl := gT_of (i := 1087) (by decide +kernel) (by decide +kernel)
theorem wd_1084 : Jvm.Cond.methodLink RL 134 yX11_bare ∈ gTbl := gT_of (i := 1084) (by decide +kernel) (by decide +kernel)
theorem wd_1085 : Jvm.Cond.instanceMethod yX11_bare ∈ gTbl := gT_of (i := 1085) (by decide +kernel) (by decide +kernel)
theorem wd_1086 : Jvm.Cond.selects RX11 yX11_bare yX11_bare ∈ gTbl := gT_of (i := 1086) (by decide +kernel) (by decide +kernel)
theorem wd_1950 : Jvm.Cond.code yX12_bare cX12_bare 3 (some .int) ∈ gTbl := gT_of (i := 1950) (by decide +kernel) (by decide +kernel)
theorem wd_1947 : Jvm.Cond.methodLink RL 137 yX12_bare ∈ gTbl := gT_of (i := 1947) (by decide +kernel) (by decide +kernel)
theorem wd_1948 : Jvm.Cond.instanceMethod yX12_bare ∈ gTbl := gT_of (i := 1948) (by decide +kernel) (by decide +kernel)
theorem wd_1949 : Jvm.Cond.selects RX12 yX12_bare yX12_bare ∈ gTbl := gT_of (i := 1949) (by decide +kernel) (by decide +kernel)
theorem wd_1091 : Jvm.Cond.code yX11_kept cX11_kept 3 (some .int) ∈ gTbl := gT_of (i := 1091) (by decide +kernel) (by decide +kernel)
theorem wd_1088 : Jvm.Cond.methodLink RL 138 yX11_kept ∈ gTbl := gT_of (i := 1088) (by decide +kernel) (by decide +kernel)
theorem wd_1089 : Jvm.Cond.instanceMethod yX11_kept ∈ gTbl := gT_of (i := 1089) (by decide +kernel) (by decide +kernel)
theorem wd_1090 : Jvm.Cond.selects RX11 yX11_kept yX11_kept ∈ gTbl := gT_of (i := 1090) (by decide +kernel) (by decide +kernel)
theorem wd_1954 : Jvm.Cond.code yX12_kept cX12_kept 3 (some .int) ∈ gTbl := gT_of (i := 1954) (by decide +kernel) (by decide +kernel)
theorem wd_1951 : Jvm.Cond.methodLink RL 141 yX12_kept ∈ gTbl := gT_of (i := 1951) (by decide +kernel) (by decide +kernel)
theorem wd_1952 : Jvm.Cond.instanceMethod yX12_kept ∈ gTbl := gT_of (i := 1952) (by decide +kernel) (by decide +kernel)
theorem wd_1953 : Jvm.Cond.selects RX12 yX12_kept yX12_kept ∈ gTbl := gT_of (i := 1953) (by decide +kernel) (by decide +kernel)
theorem wd_1099 : Jvm.Cond.code yX11_worst cX11_worst 3 (some .int) ∈ gTbl := gT_of (i := 1099) (by decide +kernel) (by decide +kernel)
theorem wd_1096 : Jvm.Cond.methodLink RL 142 yX11_worst ∈ gTbl := gT_of (i := 1096) (by decide +kernel) (by decide +kernel)
theorem wd_1097 : Jvm.Cond.instanceMethod yX11_worst ∈ gTbl := gT_of (i := 1097) (by decide +kernel) (by decide +kernel)
theorem wd_1098 : Jvm.Cond.selects RX11 yX11_worst yX11_worst ∈ gTbl := gT_of (i := 1098) (by decide +kernel) (by decide +kernel)
theorem wd_1958 : Jvm.Cond.code yX12_worst cX12_worst 3 (some .int) ∈ gTbl := gT_of (i := 1958) (by decide +kernel) (by decide +kernel)
theorem wd_1955 : Jvm.Cond.methodLink RL 145 yX12_worst ∈ gTbl := gT_of (i := 1955) (by decide +kernel) (by decide +kernel)
theorem wd_1956 : Jvm.Cond.instanceMethod yX12_worst ∈ gTbl := gT_of (i := 1956) (by decide +kernel) (by decide +kernel)
theorem wd_1957 : Jvm.Cond.selects RX12 yX12_worst yX12_worst ∈ gTbl := gT_of (i := 1957) (by decide +kernel) (by decide +kernel)
theorem wd_991 : Jvm.Cond.code yX11_loved cX11_loved 2 (some .int) ∈ gTbl := gT_of (i := 991) (by decide +kernel) (by decide +kernel)
theorem wd_988 : Jvm.Cond.methodLink RL 146 yX11_loved ∈ gTbl := gT_of (i := 988) (by decide +kernel) (by decide +kernel)
theorem wd_989 : Jvm.Cond.instanceMethod yX11_loved ∈ gTbl := gT_of (i := 989) (by decide +kernel) (by decide +kernel)
theorem wd_990 : Jvm.Cond.selects RX11 yX11_loved yX11_loved ∈ gTbl := gT_of (i := 990) (by decide +kernel) (by decide +kernel)
theorem wd_1817 : Jvm.Cond.code yX12_loved cX12_loved 4 (some .int) ∈ gTbl := gT_of (i := 1817) (by decide +kernel) (by decide +kernel)
theorem wd_1814 : Jvm.Cond.methodLink RL 149 yX12_loved ∈ gTbl := gT_of (i := 1814) (by decide +kernel) (by decide +kernel)
theorem wd_1815 : Jvm.Cond.instanceMethod yX12_loved ∈ gTbl := gT_of (i := 1815) (by decide +kernel) (by decide +kernel)
theorem wd_1816 : Jvm.Cond.selects RX12 yX12_loved yX12_loved ∈ gTbl := gT_of (i := 1816) (by decide +kernel) (by decide +kernel)
theorem wd_999 : Jvm.Cond.code yX11_shunned cX11_shunned 2 (some .int) ∈ gTbl := gT_of (i := 999) (by decide +kernel) (by decide +kernel)
theorem wd_996 : Jvm.Cond.methodLink RL 150 yX11_shunned ∈ gTbl := gT_of (i := 996) (by decide +kernel) (by decide +kernel)
theorem wd_997 : Jvm.Cond.instanceMethod yX11_shunned ∈ gTbl := gT_of (i := 997) (by decide +kernel) (by decide +kernel)
theorem wd_998 : Jvm.Cond.selects RX11 yX11_shunned yX11_shunned ∈ gTbl := gT_of (i := 998) (by decide +kernel) (by decide +kernel)
theorem wd_1821 : Jvm.Cond.code yX12_shunned cX12_shunned 4 (some .int) ∈ gTbl := gT_of (i := 1821) (by decide +kernel) (by decide +kernel)
theorem wd_1818 : Jvm.Cond.methodLink RL 153 yX12_shunned ∈ gTbl := gT_of (i := 1818) (by decide +kernel) (by decide +kernel)
theorem wd_1819 : Jvm.Cond.instanceMethod yX12_shunned ∈ gTbl := gT_of (i := 1819) (by decide +kernel) (by decide +kernel)
theorem wd_1820 : Jvm.Cond.selects RX12 yX12_shunned yX12_shunned ∈ gTbl := gT_of (i := 1820) (by decide +kernel) (by decide +kernel)
theorem wd_1007 : Jvm.Cond.code yX11_swings cX11_swings 1 (some .int) ∈ gTbl := gT_of (i := 1007) (by decide +kernel) (by decide +kernel)
theorem wd_1004 : Jvm.Cond.methodLink RL 154 yX11_swings ∈ gTbl := gT_of (i := 1004) (by decide +kernel) (by decide +kernel)
theorem wd_1005 : Jvm.Cond.instanceMethod yX11_swings ∈ gTbl := gT_of (i := 1005) (by decide +kernel) (by decide +kernel)
theorem wd_1006 : Jvm.Cond.selects RX11 yX11_swings yX11_swings ∈ gTbl := gT_of (i := 1006) (by decide +kernel) (by decide +kernel)
theorem wd_1825 : Jvm.Cond.code yX12_swings cX12_swings 4 (some .int) ∈ gTbl := gT_of (i := 1825) (by decide +kernel) (by decide +kernel)
theorem wd_1822 : Jvm.Cond.methodLink RL 157 yX12_swings ∈ gTbl := gT_of (i := 1822) (by decide +kernel) (by decide +kernel)
theorem wd_1823 : Jvm.Cond.instanceMethod yX12_swings ∈ gTbl := gT_of (i := 1823) (by decide +kernel) (by decide +kernel)
theorem wd_1824 : Jvm.Cond.selects RX12 yX12_swings yX12_swings ∈ gTbl := gT_of (i := 1824) (by decide +kernel) (by decide +kernel)
theorem wd_1103 : Jvm.Cond.code yX11_tired cX11_tired 4 (some .int) ∈ gTbl := gT_of (i := 1103) (by decide +kernel) (by decide +kernel)
theorem wd_1100 : Jvm.Cond.methodLink RL 158 yX11_tired ∈ gTbl := gT_of (i := 1100) (by decide +kernel) (by decide +kernel)
theorem wd_1101 : Jvm.Cond.instanceMethod yX11_tired ∈ gTbl := gT_of (i := 1101) (by decide +kernel) (by decide +kernel)
theorem wd_1102 : Jvm.Cond.selects RX11 yX11_tired yX11_tired ∈ gTbl := gT_of (i := 1102) (by decide +kernel) (by decide +kernel)
theorem wd_1829 : Jvm.Cond.code yX12_tired cX12_tired 4 (some .int) ∈ gTbl := gT_of (i := 1829) (by decide +kernel) (by decide +kernel)
theorem wd_1826 : Jvm.Cond.methodLink RL 161 yX12_tired ∈ gTbl := gT_of (i := 1826) (by decide +kernel) (by decide +kernel)
theorem wd_1827 : Jvm.Cond.instanceMethod yX12_tired ∈ gTbl := gT_of (i := 1827) (by decide +kernel) (by decide +kernel)
theorem wd_1828 : Jvm.Cond.selects RX12 yX12_tired yX12_tired ∈ gTbl := gT_of (i := 1828) (by decide +kernel) (by decide +kernel)
theorem wd_1107 : Jvm.Cond.code yX11_guards cX11_guards 3 (some .int) ∈ gTbl := gT_of (i := 1107) (by decide +kernel) (by decide +kernel)
theorem wd_1104 : Jvm.Cond.methodLink RL 162 yX11_guards ∈ gTbl := gT_of (i := 1104) (by decide +kernel) (by decide +kernel)
theorem wd_1105 : Jvm.Cond.instanceMethod yX11_guards ∈ gTbl := gT_of (i := 1105) (by decide +kernel) (by decide +kernel)
theorem wd_1106 : Jvm.Cond.selects RX11 yX11_guards yX11_guards ∈ gTbl := gT_of (i := 1106) (by decide +kernel) (by decide +kernel)
theorem wd_1857 : Jvm.Cond.code yX12_guards cX12_guards 3 (some .int) ∈ gTbl := gT_of (i := 1857) (by decide +kernel) (by decide +kernel)
theorem wd_1854 : Jvm.Cond.methodLink RL 165 yX12_guards ∈ gTbl := gT_of (i := 1854) (by decide +kernel) (by decide +kernel)
theorem wd_1855 : Jvm.Cond.instanceMethod yX12_guards ∈ gTbl := gT_of (i := 1855) (by decide +kernel) (by decide +kernel)
theorem wd_1856 : Jvm.Cond.selects RX12 yX12_guards yX12_guards ∈ gTbl := gT_of (i := 1856) (by decide +kernel) (by decide +kernel)
theorem wd_1111 : Jvm.Cond.code yX11_eats cX11_eats 2 (some .int) ∈ gTbl := gT_of (i := 1111) (by decide +kernel) (by decide +kernel)
theorem wd_1108 : Jvm.Cond.methodLink RL 166 yX11_eats ∈ gTbl := gT_of (i := 1108) (by decide +kernel) (by decide +kernel)
theorem wd_1109 : Jvm.Cond.instanceMethod yX11_eats ∈ gTbl := gT_of (i := 1109) (by decide +kernel) (by decide +kernel)
theorem wd_1110 : Jvm.Cond.selects RX11 yX11_eats yX11_eats ∈ gTbl := gT_of (i := 1110) (by decide +kernel) (by decide +kernel)
theorem wd_1962 : Jvm.Cond.code yX12_eats cX12_eats 2 (some .int) ∈ gTbl := gT_of (i := 1962) (by decide +kernel) (by decide +kernel)
theorem wd_1959 : Jvm.Cond.methodLink RL 169 yX12_eats ∈ gTbl := gT_of (i := 1959) (by decide +kernel) (by decide +kernel)
theorem wd_1960 : Jvm.Cond.instanceMethod yX12_eats ∈ gTbl := gT_of (i := 1960) (by decide +kernel) (by decide +kernel)
theorem wd_1961 : Jvm.Cond.selects RX12 yX12_eats yX12_eats ∈ gTbl := gT_of (i := 1961) (by decide +kernel) (by decide +kernel)
theorem wd_1115 : Jvm.Cond.code yX11_quiet cX11_quiet 4 (some .int) ∈ gTbl := gT_of (i := 1115) (by decide +kernel) (by decide +kernel)
theorem wd_1112 : Jvm.Cond.methodLink RL 170 yX11_quiet ∈ gTbl := gT_of (i := 1112) (by decide +kernel) (by decide +kernel)
theorem wd_1113 : Jvm.Cond.instanceMethod yX11_quiet ∈ gTbl := gT_of (i := 1113) (by decide +kernel) (by decide +kernel)
theorem wd_1114 : Jvm.Cond.selects RX11 yX11_quiet yX11_quiet ∈ gTbl := gT_of (i := 1114) (by decide +kernel) (by decide +kernel)
theorem wd_1966 : Jvm.Cond.code yX12_quiet cX12_quiet 4 (some .int) ∈ gTbl := gT_of (i := 1966) (by decide +kernel) (by decide +kernel)
theorem wd_1963 : Jvm.Cond.methodLink RL 173 yX12_quiet ∈ gTbl := gT_of (i := 1963) (by decide +kernel) (by decide +kernel)
theorem wd_1964 : Jvm.Cond.instanceMethod yX12_quiet ∈ gTbl := gT_of (i := 1964) (by decide +kernel) (by decide +kernel)
theorem wd_1965 : Jvm.Cond.selects RX12 yX12_quiet yX12_quiet ∈ gTbl := gT_of (i := 1965) (by decide +kernel) (by decide +kernel)
theorem wd_1119 : Jvm.Cond.code yX11_peace cX11_peace 4 (some .int) ∈ gTbl := gT_of (i := 1119) (by decide +kernel) (by decide +kernel)
theorem wd_1116 : Jvm.Cond.methodLink RL 174 yX11_peace ∈ gTbl := gT_of (i := 1116) (by decide +kernel) (by decide +kernel)
theorem wd_1117 : Jvm.Cond.instanceMethod yX11_peace ∈ gTbl := gT_of (i := 1117) (by decide +kernel) (by decide +kernel)
theorem wd_1118 : Jvm.Cond.selects RX11 yX11_peace yX11_peace ∈ gTbl := gT_of (i := 1118) (by decide +kernel) (by decide +kernel)
theorem wd_1970 : Jvm.Cond.code yX12_peace cX12_peace 4 (some .int) ∈ gTbl := gT_of (i := 1970) (by decide +kernel) (by decide +kernel)
theorem wd_1967 : Jvm.Cond.methodLink RL 177 yX12_peace ∈ gTbl := gT_of (i := 1967) (by decide +kernel) (by decide +kernel)
theorem wd_1968 : Jvm.Cond.instanceMethod yX12_peace ∈ gTbl := gT_of (i := 1968) (by decide +kernel) (by decide +kernel)
theorem wd_1969 : Jvm.Cond.selects RX12 yX12_peace yX12_peace ∈ gTbl := gT_of (i := 1969) (by decide +kernel) (by decide +kernel)
theorem wd_1124 : Jvm.Cond.code yX11_bold cX11_bold 2 (some .int) ∈ gTbl := gT_of (i := 1124) (by decide +kernel) (by decide +kernel)
theorem wd_1121 : Jvm.Cond.methodLink RL 178 yX11_bold ∈ gTbl := gT_of (i := 1121) (by decide +kernel) (by decide +kernel)
theorem wd_1122 : Jvm.Cond.instanceMethod yX11_bold ∈ gTbl := gT_of (i := 1122) (by decide +kernel) (by decide +kernel)
theorem wd_1123 : Jvm.Cond.selects RX11 yX11_bold yX11_bold ∈ gTbl := gT_of (i := 1123) (by decide +kernel) (by decide +kernel)
theorem wd_1974 : Jvm.Cond.code yX12_bold cX12_bold 4 (some .int) ∈ gTbl := gT_of (i := 1974) (by decide +kernel) (by decide +kernel)
theorem wd_1971 : Jvm.Cond.methodLink RL 181 yX12_bold ∈ gTbl := gT_of (i := 1971) (by decide +kernel) (by decide +kernel)
theorem wd_1972 : Jvm.Cond.instanceMethod yX12_bold ∈ gTbl := gT_of (i := 1972) (by decide +kernel) (by decide +kernel)
theorem wd_1973 : Jvm.Cond.selects RX12 yX12_bold yX12_bold ∈ gTbl := gT_of (i := 1973) (by decide +kernel) (by decide +kernel)
theorem wd_1128 : Jvm.Cond.code yX11_most cX11_most 2 (some .int) ∈ gTbl := gT_of (i := 1128) (by decide +kernel) (by decide +kernel)
theorem wd_1125 : Jvm.Cond.methodLink RL 182 yX11_most ∈ gTbl := gT_of (i := 1125) (by decide +kernel) (by decide +kernel)
theorem wd_1126 : Jvm.Cond.instanceMethod yX11_most ∈ gTbl := gT_of (i := 1126) (by decide +kernel) (by decide +kernel)
theorem wd_1127 : Jvm.Cond.selects RX11 yX11_most yX11_most ∈ gTbl := gT_of (i := 1127) (by decide +kernel) (by decide +kernel)
theorem wd_1978 : Jvm.Cond.code yX12_most cX12_most 4 (some .int) ∈ gTbl := gT_of (i := 1978) (by decide +kernel) (by decide +kernel)
theorem wd_1975 : Jvm.Cond.methodLink RL 185 yX12_most ∈ gTbl := gT_of (i := 1975) (by decide +kernel) (by decide +kernel)
theorem wd_1976 : Jvm.Cond.instanceMethod yX12_most ∈ gTbl := gT_of (i := 1976) (by decide +kernel) (by decide +kernel)
theorem wd_1977 : Jvm.Cond.selects RX12 yX12_most yX12_most ∈ gTbl := gT_of (i := 1977) (by decide +kernel) (by decide +kernel)
theorem wd_1136 : Jvm.Cond.code yX11_flown cX11_flown 2 (some .int) ∈ gTbl := gT_of (i := 1136) (by decide +kernel) (by decide +kernel)
theorem wd_1133 : Jvm.Cond.methodLink RL 186 yX11_flown ∈ gTbl := gT_of (i := 1133) (by decide +kernel) (by decide +kernel)
theorem wd_1134 : Jvm.Cond.instanceMethod yX11_flown ∈ gTbl := gT_of (i := 1134) (by decide +kernel) (by decide +kernel)
theorem wd_1135 : Jvm.Cond.selects RX11 yX11_flown yX11_flown ∈ gTbl := gT_of (i := 1135) (by decide +kernel) (by decide +kernel)
theorem wd_1982 : Jvm.Cond.code yX12_flown cX12_flown 2 (some .int) ∈ gTbl := gT_of (i := 1982) (by decide +kernel) (by decide +kernel)
theorem wd_1979 : Jvm.Cond.methodLink RL 189 yX12_flown ∈ gTbl := gT_of (i := 1979) (by decide +kernel) (by decide +kernel)
theorem wd_1980 : Jvm.Cond.instanceMethod yX12_flown ∈ gTbl := gT_of (i := 1980) (by decide +kernel) (by decide +kernel)
theorem wd_1981 : Jvm.Cond.selects RX12 yX12_flown yX12_flown ∈ gTbl := gT_of (i := 1981) (by decide +kernel) (by decide +kernel)
theorem wd_1071 : Jvm.Cond.code yX11_richest cX11_richest 2 (some .int) ∈ gTbl := gT_of (i := 1071) (by decide +kernel) (by decide +kernel)
theorem wd_1068 : Jvm.Cond.methodLink RL 190 yX11_richest ∈ gTbl := gT_of (i := 1068) (by decide +kernel) (by decide +kernel)
theorem wd_1069 : Jvm.Cond.instanceMethod yX11_richest ∈ gTbl := gT_of (i := 1069) (by decide +kernel) (by decide +kernel)
theorem wd_1070 : Jvm.Cond.selects RX11 yX11_richest yX11_richest ∈ gTbl := gT_of (i := 1070) (by decide +kernel) (by decide +kernel)
theorem wd_1986 : Jvm.Cond.code yX12_richest cX12_richest 4 (some .int) ∈ gTbl := gT_of (i := 1986) (by decide +kernel) (by decide +kernel)
theorem wd_1983 : Jvm.Cond.methodLink RL 193 yX12_richest ∈ gTbl := gT_of (i := 1983) (by decide +kernel) (by decide +kernel)
theorem wd_1984 : Jvm.Cond.instanceMethod yX12_richest ∈ gTbl := gT_of (i := 1984) (by decide +kernel) (by decide +kernel)
theorem wd_1985 : Jvm.Cond.selects RX12 yX12_richest yX12_richest ∈ gTbl := gT_of (i := 1985) (by decide +kernel) (by decide +kernel)
theorem wd_1140 : Jvm.Cond.code yX11_best cX11_best 1 (some .int) ∈ gTbl := gT_of (i := 1140) (by decide +kernel) (by decide +kernel)
theorem wd_1137 : Jvm.Cond.methodLink RL 194 yX11_best ∈ gTbl := gT_of (i := 1137) (by decide +kernel) (by decide +kernel)
theorem wd_1138 : Jvm.Cond.instanceMethod yX11_best ∈ gTbl := gT_of (i := 1138) (by decide +kernel) (by decide +kernel)
theorem wd_1139 : Jvm.Cond.selects RX11 yX11_best yX11_best ∈ gTbl := gT_of (i := 1139) (by decide +kernel) (by decide +kernel)
theorem wd_1990 : Jvm.Cond.code yX12_best cX12_best 1 (some .int) ∈ gTbl := gT_of (i := 1990) (by decide +kernel) (by decide +kernel)
theorem wd_1987 : Jvm.Cond.methodLink RL 197 yX12_best ∈ gTbl := gT_of (i := 1987) (by decide +kernel) (by decide +kernel)
theorem wd_1988 : Jvm.Cond.instanceMethod yX12_best ∈ gTbl := gT_of (i := 1988) (by decide +kernel) (by decide +kernel)
theorem wd_1989 : Jvm.Cond.selects RX12 yX12_best yX12_best ∈ gTbl := gT_of (i := 1989) (by decide +kernel) (by decide +kernel)
theorem wd_1166 : Jvm.Cond.code yX11_put cX11_put 2 (some .int) ∈ gTbl := gT_of (i := 1166) (by decide +kernel) (by decide +kernel)
theorem wd_1163 : Jvm.Cond.methodLink RL 198 yX11_put ∈ gTbl := gT_of (i := 1163) (by decide +kernel) (by decide +kernel)
theorem wd_1164 : Jvm.Cond.instanceMethod yX11_put ∈ gTbl := gT_of (i := 1164) (by decide +kernel) (by decide +kernel)
theorem wd_1165 : Jvm.Cond.selects RX11 yX11_put yX11_put ∈ gTbl := gT_of (i := 1165) (by decide +kernel) (by decide +kernel)
theorem wd_2022 : Jvm.Cond.code yX12_put cX12_put 2 (some .int) ∈ gTbl := gT_of (i := 2022) (by decide +kernel) (by decide +kernel)
theorem wd_2019 : Jvm.Cond.methodLink RL 201 yX12_put ∈ gTbl := gT_of (i := 2019) (by decide +kernel) (by decide +kernel)
theorem wd_2020 : Jvm.Cond.instanceMethod yX12_put ∈ gTbl := gT_of (i := 2020) (by decide +kernel) (by decide +kernel)
theorem wd_2021 : Jvm.Cond.selects RX12 yX12_put yX12_put ∈ gTbl := gT_of (i := 2021) (by decide +kernel) (by decide +kernel)
theorem wd_1170 : Jvm.Cond.code yX11_ways cX11_ways 1 (some .int) ∈ gTbl := gT_of (i := 1170) (by decide +kernel) (by decide +kernel)
theorem wd_1167 : Jvm.Cond.methodLink RL 202 yX11_ways ∈ gTbl := gT_of (i := 1167) (by decide +kernel) (by decide +kernel)
theorem wd_1168 : Jvm.Cond.instanceMethod yX11_ways ∈ gTbl := gT_of (i := 1168) (by decide +kernel) (by decide +kernel)
theorem wd_1169 : Jvm.Cond.selects RX11 yX11_ways yX11_ways ∈ gTbl := gT_of (i := 1169) (by decide +kernel) (by decide +kernel)
theorem wd_2014 : Jvm.Cond.code yX12_ways cX12_ways 1 (some .int) ∈ gTbl := gT_of (i := 2014) (by decide +kernel) (by decide +kernel)
theorem wd_2011 : Jvm.Cond.methodLink RL 205 yX12_ways ∈ gTbl := gT_of (i := 2011) (by decide +kernel) (by decide +kernel)
theorem wd_2012 : Jvm.Cond.instanceMethod yX12_ways ∈ gTbl := gT_of (i := 2012) (by decide +kernel) (by decide +kernel)
theorem wd_2013 : Jvm.Cond.selects RX12 yX12_ways yX12_ways ∈ gTbl := gT_of (i := 2013) (by decide +kernel) (by decide +kernel)
theorem wd_1174 : Jvm.Cond.code yX11_fewest cX11_fewest 1 (some .int) ∈ gTbl := gT_of (i := 1174) (by decide +kernel) (by decide +kernel)
theorem wd_1171 : Jvm.Cond.methodLink RL 206 yX11_fewest ∈ gTbl := gT_of (i := 1171) (by decide +kernel) (by decide +kernel)
theorem wd_1172 : Jvm.Cond.instanceMethod yX11_fewest ∈ gTbl := gT_of (i := 1172) (by decide +kernel) (by decide +kernel)
theorem wd_1173 : Jvm.Cond.selects RX11 yX11_fewest yX11_fewest ∈ gTbl := gT_of (i := 1173) (by decide +kernel) (by decide +kernel)
theorem wd_2018 : Jvm.Cond.code yX12_fewest cX12_fewest 1 (some .int) ∈ gTbl := gT_of (i := 2018) (by decide +kernel) (by decide +kernel)
theorem wd_2015 : Jvm.Cond.methodLink RL 209 yX12_fewest ∈ gTbl := gT_of (i := 2015) (by decide +kernel) (by decide +kernel)
theorem wd_2016 : Jvm.Cond.instanceMethod yX12_fewest ∈ gTbl := gT_of (i := 2016) (by decide +kernel) (by decide +kernel)
theorem wd_2017 : Jvm.Cond.selects RX12 yX12_fewest yX12_fewest ∈ gTbl := gT_of (i := 2017) (by decide +kernel) (by decide +kernel)
theorem wd_1178 : Jvm.Cond.code yX11_by cX11_by 2 (some .int) ∈ gTbl := gT_of (i := 1178) (by decide +kernel) (by decide +kernel)
theorem wd_1175 : Jvm.Cond.methodLink RL 210 yX11_by ∈ gTbl := gT_of (i := 1175) (by decide +kernel) (by decide +kernel)
theorem wd_1176 : Jvm.Cond.instanceMethod yX11_by ∈ gTbl := gT_of (i := 1176) (by decide +kernel) (by decide +kernel)
theorem wd_1177 : Jvm.Cond.selects RX11 yX11_by yX11_by ∈ gTbl := gT_of (i := 1177) (by decide +kernel) (by decide +kernel)
theorem wd_2026 : Jvm.Cond.code yX12_by cX12_by 2 (some .int) ∈ gTbl := gT_of (i := 2026) (by decide +kernel) (by decide +kernel)
theorem wd_2023 : Jvm.Cond.methodLink RL 213 yX12_by ∈ gTbl := gT_of (i := 2023) (by decide +kernel) (by decide +kernel)
theorem wd_2024 : Jvm.Cond.instanceMethod yX12_by ∈ gTbl := gT_of (i := 2024) (by decide +kernel) (by decide +kernel)
theorem wd_2025 : Jvm.Cond.selects RX12 yX12_by yX12_by ∈ gTbl := gT_of (i := 2025) (by decide +kernel) (by decide +kernel)
theorem wd_1190 : Jvm.Cond.code yX11_law cX11_law 5 (some .int) ∈ gTbl := gT_of (i := 1190) (by decide +kernel) (by decide +kernel)
theorem wd_1187 : Jvm.Cond.methodLink RL 214 yX11_law ∈ gTbl := gT_of (i := 1187) (by decide +kernel) (by decide +kernel)
theorem wd_1188 : Jvm.Cond.instanceMethod yX11_law ∈ gTbl := gT_of (i := 1188) (by decide +kernel) (by decide +kernel)
theorem wd_1189 : Jvm.Cond.selects RX11 yX11_law yX11_law ∈ gTbl := gT_of (i := 1189) (by decide +kernel) (by decide +kernel)
theorem wd_2034 : Jvm.Cond.code yX12_law cX12_law 3 (some .int) ∈ gTbl := gT_of (i := 2034) (by decide +kernel) (by decide +kernel)
theorem wd_2031 : Jvm.Cond.methodLink RL 217 yX12_law ∈ gTbl := gT_of (i := 2031) (by decide +kernel) (by decide +kernel)
theorem wd_2032 : Jvm.Cond.instanceMethod yX12_law ∈ gTbl := gT_of (i := 2032) (by decide +kernel) (by decide +kernel)
theorem wd_2033 : Jvm.Cond.selects RX12 yX12_law yX12_law ∈ gTbl := gT_of (i := 2033) (by decide +kernel) (by decide +kernel)
theorem wd_1194 : Jvm.Cond.code yX11_speech cX11_speech 6 (some .int) ∈ gTbl := gT_of (i := 1194) (by decide +kernel) (by decide +kernel)
theorem wd_1191 : Jvm.Cond.methodLink RL 218 yX11_speech ∈ gTbl := gT_of (i := 1191) (by decide +kernel) (by decide +kernel)
theorem wd_1192 : Jvm.Cond.instanceMethod yX11_speech ∈ gTbl := gT_of (i := 1192) (by decide +kernel) (by decide +kernel)
theorem wd_1193 : Jvm.Cond.selects RX11 yX11_speech yX11_speech ∈ gTbl := gT_of (i := 1193) (by decide +kernel) (by decide +kernel)
theorem wd_2038 : Jvm.Cond.code yX12_speech cX12_speech 6 (some .int) ∈ gTbl := gT_of (i := 2038) (by decide +kernel) (by decide +kernel)
theorem wd_2035 : Jvm.Cond.methodLink RL 221 yX12_speech ∈ gTbl := gT_of (i := 2035) (by decide +kernel) (by decide +kernel)
theorem wd_2036 : Jvm.Cond.instanceMethod yX12_speech ∈ gTbl := gT_of (i := 2036) (by decide +kernel) (by decide +kernel)
theorem wd_2037 : Jvm.Cond.selects RX12 yX12_speech yX12_speech ∈ gTbl := gT_of (i := 2037) (by decide +kernel) (by decide +kernel)
theorem wd_1199 : Jvm.Cond.code yX11_gap cX11_gap 6 (some .int) ∈ gTbl := gT_of (i := 1199) (by decide +kernel) (by decide +kernel)
theorem wd_1196 : Jvm.Cond.methodLink RL 222 yX11_gap ∈ gTbl := gT_of (i := 1196) (by decide +kernel) (by decide +kernel)
theorem wd_1197 : Jvm.Cond.instanceMethod yX11_gap ∈ gTbl := gT_of (i := 1197) (by decide +kernel) (by decide +kernel)
theorem wd_1198 : Jvm.Cond.selects RX11 yX11_gap yX11_gap ∈ gTbl := gT_of (i := 1198) (by decide +kernel) (by decide +kernel)
theorem wd_2042 : Jvm.Cond.code yX12_gap cX12_gap 5 (some .int) ∈ gTbl := gT_of (i := 2042) (by decide +kernel) (by decide +kernel)
theorem wd_2039 : Jvm.Cond.methodLink RL 225 yX12_gap ∈ gTbl := gT_of (i := 2039) (by decide +kernel) (by decide +kernel)
theorem wd_2040 : Jvm.Cond.instanceMethod yX12_gap ∈ gTbl := gT_of (i := 2040) (by decide +kernel) (by decide +kernel)
theorem wd_2041 : Jvm.Cond.selects RX12 yX12_gap yX12_gap ∈ gTbl := gT_of (i := 2041) (by decide +kernel) (by decide +kernel)
theorem wd_1203 : Jvm.Cond.code yX11_may cX11_may 4 (some .int) ∈ gTbl := gT_of (i := 1203) (by decide +kernel) (by decide +kernel)
theorem wd_1200 : Jvm.Cond.methodLink RL 226 yX11_may ∈ gTbl := gT_of (i := 1200) (by decide +kernel) (by decide +kernel)
theorem wd_1201 : Jvm.Cond.instanceMethod yX11_may ∈ gTbl := gT_of (i := 1201) (by decide +kernel) (by decide +kernel)
theorem wd_1202 : Jvm.Cond.selects RX11 yX11_may yX11_may ∈ gTbl := gT_of (i := 1202) (by decide +kernel) (by decide +kernel)
theorem wd_2046 : Jvm.Cond.code yX12_may cX12_may 4 (some .int) ∈ gTbl := gT_of (i := 2046) (by decide +kernel) (by decide +kernel)
theorem wd_2043 : Jvm.Cond.methodLink RL 229 yX12_may ∈ gTbl := gT_of (i := 2043) (by decide +kernel) (by decide +kernel)
theorem wd_2044 : Jvm.Cond.instanceMethod yX12_may ∈ gTbl := gT_of (i := 2044) (by decide +kernel) (by decide +kernel)
theorem wd_2045 : Jvm.Cond.selects RX12 yX12_may yX12_may ∈ gTbl := gT_of (i := 2045) (by decide +kernel) (by decide +kernel)
theorem wd_1239 : Jvm.Cond.code yX11_ask cX11_ask 4 (some .int) ∈ gTbl := gT_of (i := 1239) (by decide +kernel) (by decide +kernel)
theorem wd_1236 : Jvm.Cond.methodLink RL 230 yX11_ask ∈ gTbl := gT_of (i := 1236) (by decide +kernel) (by decide +kernel)
theorem wd_1237 : Jvm.Cond.instanceMethod yX11_ask ∈ gTbl := gT_of (i := 1237) (by decide +kernel) (by decide +kernel)
theorem wd_1238 : Jvm.Cond.selects RX11 yX11_ask yX11_ask ∈ gTbl := gT_of (i := 1238) (by decide +kernel) (by decide +kernel)
theorem wd_2070 : Jvm.Cond.code yX12_ask cX12_ask 4 (some .int) ∈ gTbl := gT_of (i := 2070) (by decide +kernel) (by decide +kernel)
theorem wd_2067 : Jvm.Cond.methodLink RL 233 yX12_ask ∈ gTbl := gT_of (i := 2067) (by decide +kernel) (by decide +kernel)
theorem wd_2068 : Jvm.Cond.instanceMethod yX12_ask ∈ gTbl := gT_of (i := 2068) (by decide +kernel) (by decide +kernel)
theorem wd_2069 : Jvm.Cond.selects RX12 yX12_ask yX12_ask ∈ gTbl := gT_of (i := 2069) (by decide +kernel) (by decide +kernel)
theorem wd_1258 : Jvm.Cond.code yX11_leaves cX11_leaves 4 (some .int) ∈ gTbl := gT_of (i := 1258) (by decide +kernel) (by decide +kernel)
theorem wd_1255 : Jvm.Cond.methodLink RL 234 yX11_leaves ∈ gTbl := gT_of (i := 1255) (by decide +kernel) (by decide +kernel)
theorem wd_1256 : Jvm.Cond.instanceMethod yX11_leaves ∈ gTbl := gT_of (i := 1256) (by decide +kernel) (by decide +kernel)
theorem wd_1257 : Jvm.Cond.selects RX11 yX11_leaves yX11_leaves ∈ gTbl := gT_of (i := 1257) (by decide +kernel) (by decide +kernel)
theorem wd_2082 : Jvm.Cond.code yX12_leaves cX12_leaves 4 (some .int) ∈ gTbl := gT_of (i := 2082) (by decide +kernel) (by decide +kernel)
theorem wd_2079 : Jvm.Cond.methodLink RL 237 yX12_leaves ∈ gTbl := gT_of (i := 2079) (by decide +kernel) (by decide +kernel)
theorem wd_2080 : Jvm.Cond.instanceMethod yX12_leaves ∈ gTbl := gT_of (i := 2080) (by decide +kernel) (by decide +kernel)
theorem wd_2081 : Jvm.Cond.selects RX12 yX12_leaves yX12_leaves ∈ gTbl := gT_of (i := 2081) (by decide +kernel) (by decide +kernel)
theorem wd_1262 : Jvm.Cond.code yX11_rests cX11_rests 8 (some .int) ∈ gTbl := gT_of (i := 1262) (by decide +kernel) (by decide +kernel)
theorem wd_1259 : Jvm.Cond.methodLink RL 238 yX11_rests ∈ gTbl := gT_of (i := 1259) (by decide +kernel) (by decide +kernel)
theorem wd_1260 : Jvm.Cond.instanceMethod yX11_rests ∈ gTbl := gT_of (i := 1260) (by decide +kernel) (by decide +kernel)
theorem wd_1261 : Jvm.Cond.selects RX11 yX11_rests yX11_rests ∈ gTbl := gT_of (i := 1261) (by decide +kernel) (by decide +kernel)
theorem wd_2086 : Jvm.Cond.code yX12_rests cX12_rests 8 (some .int) ∈ gTbl := gT_of (i := 2086) (by decide +kernel) (by decide +kernel)
theorem wd_2083 : Jvm.Cond.methodLink RL 241 yX12_rests ∈ gTbl := gT_of (i := 2083) (by decide +kernel) (by decide +kernel)
theorem wd_2084 : Jvm.Cond.instanceMethod yX12_rests ∈ gTbl := gT_of (i := 2084) (by decide +kernel) (by decide +kernel)
theorem wd_2085 : Jvm.Cond.selects RX12 yX12_rests yX12_rests ∈ gTbl := gT_of (i := 2085) (by decide +kernel) (by decide +kernel)
theorem wd_1270 : Jvm.Cond.code yX11_gets cX11_gets 5 (some .int) ∈ gTbl := gT_of (i := 1270) (by decide +kernel) (by decide +kernel)
theorem wd_1267 : Jvm.Cond.methodLink RL 242 yX11_gets ∈ gTbl := gT_of (i := 1267) (by decide +kernel) (by decide +kernel)
theorem wd_1268 : Jvm.Cond.instanceMethod yX11_gets ∈ gTbl := gT_of (i := 1268) (by decide +kernel) (by decide +kernel)
theorem wd_1269 : Jvm.Cond.selects RX11 yX11_gets yX11_gets ∈ gTbl := gT_of (i := 1269) (by decide +kernel) (by decide +kernel)
theorem wd_2098 : Jvm.Cond.code yX12_gets cX12_gets 5 (some .int) ∈ gTbl := gT_of (i := 2098) (by decide +kernel) (by decide +kernel)
theorem wd_2095 : Jvm.Cond.methodLink RL 246 yX12_gets ∈ gTbl := gT_of (i := 2095) (by decide +kernel) (by decide +kernel)
theorem wd_2096 : Jvm.Cond.instanceMethod yX12_gets ∈ gTbl := gT_of (i := 2096) (by decide +kernel) (by decide +kernel)
theorem wd_2097 : Jvm.Cond.selects RX12 yX12_gets yX12_gets ∈ gTbl := gT_of (i := 2097) (by decide +kernel) (by decide +kernel)
theorem wd_1274 : Jvm.Cond.code yX11_chance cX11_chance 9 (some .long) ∈ gTbl := gT_of (i := 1274) (by decide +kernel) (by decide +kernel)
theorem wd_1271 : Jvm.Cond.methodLink RL 247 yX11_chance ∈ gTbl := gT_of (i := 1271) (by decide +kernel) (by decide +kernel)
theorem wd_1272 : Jvm.Cond.instanceMethod yX11_chance ∈ gTbl := gT_of (i := 1272) (by decide +kernel) (by decide +kernel)
theorem wd_1273 : Jvm.Cond.selects RX11 yX11_chance yX11_chance ∈ gTbl := gT_of (i := 1273) (by decide +kernel) (by decide +kernel)
theorem wd_2102 : Jvm.Cond.code yX12_chance cX12_chance 5 (some .long) ∈ gTbl := gT_of (i := 2102) (by decide +kernel) (by decide +kernel)
theorem wd_2099 : Jvm.Cond.methodLink RL 251 yX12_chance ∈ gTbl := gT_of (i := 2099) (by decide +kernel) (by decide +kernel)
theorem wd_2100 : Jvm.Cond.instanceMethod yX12_chance ∈ gTbl := gT_of (i := 2100) (by decide +kernel) (by decide +kernel)
theorem wd_2101 : Jvm.Cond.selects RX12 yX12_chance yX12_chance ∈ gTbl := gT_of (i := 2101) (by decide +kernel) (by decide +kernel)
theorem wd_1291 : Jvm.Cond.code yX11_mean cX11_mean 7 (some .long) ∈ gTbl := gT_of (i := 1291) (by decide +kernel) (by decide +kernel)
theorem wd_1288 : Jvm.Cond.methodLink RL 252 yX11_mean ∈ gTbl := gT_of (i := 1288) (by decide +kernel) (by decide +kernel)
theorem wd_1289 : Jvm.Cond.instanceMethod yX11_mean ∈ gTbl := gT_of (i := 1289) (by decide +kernel) (by decide +kernel)
theorem wd_1290 : Jvm.Cond.selects RX11 yX11_mean yX11_mean ∈ gTbl := gT_of (i := 1290) (by decide +kernel) (by decide +kernel)
theorem wd_2117 : Jvm.Cond.code yX12_mean cX12_mean 3 (some .long) ∈ gTbl := gT_of (i := 2117) (by decide +kernel) (by decide +kernel)
theorem wd_2114 : Jvm.Cond.methodLink RL 256 yX12_mean ∈ gTbl := gT_of (i := 2114) (by decide +kernel) (by decide +kernel)
theorem wd_2115 : Jvm.Cond.instanceMethod yX12_mean ∈ gTbl := gT_of (i := 2115) (by decide +kernel) (by decide +kernel)
theorem wd_2116 : Jvm.Cond.selects RX12 yX12_mean yX12_mean ∈ gTbl := gT_of (i := 2116) (by decide +kernel) (by decide +kernel)
theorem wd_1319 : Jvm.Cond.code yX11_puts cX11_puts 4 (some .int) ∈ gTbl := gT_of (i := 1319) (by decide +kernel) (by decide +kernel)
theorem wd_1316 : Jvm.Cond.methodLink RL 257 yX11_puts ∈ gTbl := gT_of (i := 1316) (by decide +kernel) (by decide +kernel)
theorem wd_1317 : Jvm.Cond.instanceMethod yX11_puts ∈ gTbl := gT_of (i := 1317) (by decide +kernel) (by decide +kernel)
theorem wd_1318 : Jvm.Cond.selects RX11 yX11_puts yX11_puts ∈ gTbl := gT_of (i := 1318) (by decide +kernel) (by decide +kernel)
theorem wd_2121 : Jvm.Cond.code yX12_puts cX12_puts 3 (some .int) ∈ gTbl := gT_of (i := 2121) (by decide +kernel) (by decide +kernel)
theorem wd_2118 : Jvm.Cond.methodLink RL 260 yX12_puts ∈ gTbl := gT_of (i := 2118) (by decide +kernel) (by decide +kernel)
theorem wd_2119 : Jvm.Cond.instanceMethod yX12_puts ∈ gTbl := gT_of (i := 2119) (by decide +kernel) (by decide +kernel)
theorem wd_2120 : Jvm.Cond.selects RX12 yX12_puts yX12_puts ∈ gTbl := gT_of (i := 2120) (by decide +kernel) (by decide +kernel)
theorem wd_1327 : Jvm.Cond.code yX11_speaks cX11_speaks 3 (some .int) ∈ gTbl := gT_of (i := 1327) (by decide +kernel) (by decide +kernel)
theorem wd_1324 : Jvm.Cond.methodLink RL 261 yX11_speaks ∈ gTbl := gT_of (i := 1324) (by decide +kernel) (by decide +kernel)
theorem wd_1325 : Jvm.Cond.instanceMethod yX11_speaks ∈ gTbl := gT_of (i := 1325) (by decide +kernel) (by decide +kernel)
theorem wd_1326 : Jvm.Cond.selects RX11 yX11_speaks yX11_speaks ∈ gTbl := gT_of (i := 1326) (by decide +kernel) (by decide +kernel)
theorem wd_2129 : Jvm.Cond.code yX12_speaks cX12_speaks 3 (some .int) ∈ gTbl := gT_of (i := 2129) (by decide +kernel) (by decide +kernel)
theorem wd_2126 : Jvm.Cond.methodLink RL 264 yX12_speaks ∈ gTbl := gT_of (i := 2126) (by decide +kernel) (by decide +kernel)
theorem wd_2127 : Jvm.Cond.instanceMethod yX12_speaks ∈ gTbl := gT_of (i := 2127) (by decide +kernel) (by decide +kernel)
theorem wd_2128 : Jvm.Cond.selects RX12 yX12_speaks yX12_speaks ∈ gTbl := gT_of (i := 2128) (by decide +kernel) (by decide +kernel)
theorem wd_1331 : Jvm.Cond.code yX11_undo cX11_undo 1 (some .int) ∈ gTbl := gT_of (i := 1331) (by decide +kernel) (by decide +kernel)
theorem wd_1328 : Jvm.Cond.methodLink RL 265 yX11_undo ∈ gTbl := gT_of (i := 1328) (by decide +kernel) (by decide +kernel)
theorem wd_1329 : Jvm.Cond.instanceMethod yX11_undo ∈ gTbl := gT_of (i := 1329) (by decide +kernel) (by decide +kernel)
theorem wd_1330 : Jvm.Cond.selects RX11 yX11_undo yX11_undo ∈ gTbl := gT_of (i := 1330) (by decide +kernel) (by decide +kernel)
theorem wd_2133 : Jvm.Cond.code yX12_undo cX12_undo 1 (some .int) ∈ gTbl := gT_of (i := 2133) (by decide +kernel) (by decide +kernel)
theorem wd_2130 : Jvm.Cond.methodLink RL 268 yX12_undo ∈ gTbl := gT_of (i := 2130) (by decide +kernel) (by decide +kernel)
theorem wd_2131 : Jvm.Cond.instanceMethod yX12_undo ∈ gTbl := gT_of (i := 2131) (by decide +kernel) (by decide +kernel)
theorem wd_2132 : Jvm.Cond.selects RX12 yX12_undo yX12_undo ∈ gTbl := gT_of (i := 2132) (by decide +kernel) (by decide +kernel)
theorem wd_1335 : Jvm.Cond.code yX11_anew cX11_anew 2 (some .int) ∈ gTbl := gT_of (i := 1335) (by decide +kernel) (by decide +kernel)
theorem wd_1332 : Jvm.Cond.methodLink RL 269 yX11_anew ∈ gTbl := gT_of (i := 1332) (by decide +kernel) (by decide +kernel)
theorem wd_1333 : Jvm.Cond.instanceMethod yX11_anew ∈ gTbl := gT_of (i := 1333) (by decide +kernel) (by decide +kernel)
theorem wd_1334 : Jvm.Cond.selects RX11 yX11_anew yX11_anew ∈ gTbl := gT_of (i := 1334) (by decide +kernel) (by decide +kernel)
theorem wd_2137 : Jvm.Cond.code yX12_anew cX12_anew 2 (some .int) ∈ gTbl := gT_of (i := 2137) (by decide +kernel) (by decide +kernel)
theorem wd_2134 : Jvm.Cond.methodLink RL 272 yX12_anew ∈ gTbl := gT_of (i := 2134) (by decide +kernel) (by decide +kernel)
theorem wd_2135 : Jvm.Cond.instanceMethod yX12_anew ∈ gTbl := gT_of (i := 2135) (by decide +kernel) (by decide +kernel)
theorem wd_2136 : Jvm.Cond.selects RX12 yX12_anew yX12_anew ∈ gTbl := gT_of (i := 2136) (by decide +kernel) (by decide +kernel)
theorem wd_1295 : Jvm.Cond.code yX11_drawn cX11_drawn 3 (some .int) ∈ gTbl := gT_of (i := 1295) (by decide +kernel) (by decide +kernel)
theorem wd_1292 : Jvm.Cond.methodLink RL 273 yX11_drawn ∈ gTbl := gT_of (i := 1292) (by decide +kernel) (by decide +kernel)
theorem wd_1293 : Jvm.Cond.instanceMethod yX11_drawn ∈ gTbl := gT_of (i := 1293) (by decide +kernel) (by decide +kernel)
theorem wd_1294 : Jvm.Cond.selects RX11 yX11_drawn yX11_drawn ∈ gTbl := gT_of (i := 1294) (by decide +kernel) (by decide +kernel)
theorem wd_2141 : Jvm.Cond.code yX12_drawn cX12_drawn 3 (some .int) ∈ gTbl := gT_of (i := 2141) (by decide +kernel) (by decide +kernel)
theorem wd_2138 : Jvm.Cond.methodLink RL 276 yX12_drawn ∈ gTbl := gT_of (i := 2138) (by decide +kernel) (by decide +kernel)
theorem wd_2139 : Jvm.Cond.instanceMethod yX12_drawn ∈ gTbl := gT_of (i := 2139) (by decide +kernel) (by decide +kernel)
theorem wd_2140 : Jvm.Cond.selects RX12 yX12_drawn yX12_drawn ∈ gTbl := gT_of (i := 2140) (by decide +kernel) (by decide +kernel)
theorem wd_1315 : Jvm.Cond.code yX11_luck cX11_luck 6 (some .int) ∈ gTbl := gT_of (i := 1315) (by decide +kernel) (by decide +kernel)
theorem wd_1312 : Jvm.Cond.methodLink RL 277 yX11_luck ∈ gTbl := gT_of (i := 1312) (by decide +kernel) (by decide +kernel)
theorem wd_1313 : Jvm.Cond.instanceMethod yX11_luck ∈ gTbl := gT_of (i := 1313) (by decide +kernel) (by decide +kernel)
theorem wd_1314 : Jvm.Cond.selects RX11 yX11_luck yX11_luck ∈ gTbl := gT_of (i := 1314) (by decide +kernel) (by decide +kernel)
theorem wd_2158 : Jvm.Cond.code yX12_luck cX12_luck 6 (some .int) ∈ gTbl := gT_of (i := 2158) (by decide +kernel) (by decide +kernel)
theorem wd_2155 : Jvm.Cond.methodLink RL 280 yX12_luck ∈ gTbl := gT_of (i := 2155) (by decide +kernel) (by decide +kernel)
theorem wd_2156 : Jvm.Cond.instanceMethod yX12_luck ∈ gTbl := gT_of (i := 2156) (by decide +kernel) (by decide +kernel)
theorem wd_2157 : Jvm.Cond.selects RX12 yX12_luck yX12_luck ∈ gTbl := gT_of (i := 2157) (by decide +kernel) (by decide +kernel)
theorem wd_1339 : Jvm.Cond.code yX11_rate cX11_rate 4 (some .int) ∈ gTbl := gT_of (i := 1339) (by decide +kernel) (by decide +kernel)
theorem wd_1336 : Jvm.Cond.methodLink RL 281 yX11_rate ∈ gTbl := gT_of (i := 1336) (by decide +kernel) (by decide +kernel)
theorem wd_1337 : Jvm.Cond.instanceMethod yX11_rate ∈ gTbl := gT_of (i := 1337) (by decide +kernel) (by decide +kernel)
theorem wd_1338 : Jvm.Cond.selects RX11 yX11_rate yX11_rate ∈ gTbl := gT_of (i := 1338) (by decide +kernel) (by decide +kernel)
theorem wd_2163 : Jvm.Cond.code yX12_rate cX12_rate 4 (some .int) ∈ gTbl := gT_of (i := 2163) (by decide +kernel) (by decide +kernel)
theorem wd_2160 : Jvm.Cond.methodLink RL 284 yX12_rate ∈ gTbl := gT_of (i := 2160) (by decide +kernel) (by decide +kernel)
theorem wd_2161 : Jvm.Cond.instanceMethod yX12_rate ∈ gTbl := gT_of (i := 2161) (by decide +kernel) (by decide +kernel)
theorem wd_2162 : Jvm.Cond.selects RX12 yX12_rate yX12_rate ∈ gTbl := gT_of (i := 2162) (by decide +kernel) (by decide +kernel)
theorem wd_1343 : Jvm.Cond.code yX11_count cX11_count 2 (some .int) ∈ gTbl := gT_of (i := 1343) (by decide +kernel) (by decide +kernel)
theorem wd_1340 : Jvm.Cond.methodLink RL 285 yX11_count ∈ gTbl := gT_of (i := 1340) (by decide +kernel) (by decide +kernel)
theorem wd_1341 : Jvm.Cond.instanceMethod yX11_count ∈ gTbl := gT_of (i := 1341) (by decide +kernel) (by decide +kernel)
theorem wd_1342 : Jvm.Cond.selects RX11 yX11_count yX11_count ∈ gTbl := gT_of (i := 1342) (by decide +kernel) (by decide +kernel)
theorem wd_2168 : Jvm.Cond.code yX12_count cX12_count 4 (some .int) ∈ gTbl := gT_of (i := 2168) (by decide +kernel) (by decide +kernel)
theorem wd_2165 : Jvm.Cond.methodLink RL 288 yX12_count ∈ gTbl := gT_of (i := 2165) (by decide +kernel) (by decide +kernel)
theorem wd_2166 : Jvm.Cond.instanceMethod yX12_count ∈ gTbl := gT_of (i := 2166) (by decide +kernel) (by decide +kernel)
theorem wd_2167 : Jvm.Cond.selects RX12 yX12_count yX12_count ∈ gTbl := gT_of (i := 2167) (by decide +kernel) (by decide +kernel)
theorem wd_1352 : Jvm.Cond.code yX11_image cX11_image 2 (some .int) ∈ gTbl := gT_of (i := 1352) (by decide +kernel) (by decide +kernel)
theorem wd_1349 : Jvm.Cond.methodLink RL 289 yX11_image ∈ gTbl := gT_of (i := 1349) (by decide +kernel) (by decide +kernel)
theorem wd_1350 : Jvm.Cond.instanceMethod yX11_image ∈ gTbl := gT_of (i := 1350) (by decide +kernel) (by decide +kernel)
theorem wd_1351 : Jvm.Cond.selects RX11 yX11_image yX11_image ∈ gTbl := gT_of (i := 1351) (by decide +kernel) (by decide +kernel)
theorem wd_1540 : Jvm.Cond.code yX12_image cX12_image 3 (some .int) ∈ gTbl := gT_of (i := 1540) (by decide +kernel) (by decide +kernel)
theorem wd_1537 : Jvm.Cond.methodLink RL 292 yX12_image ∈ gTbl := gT_of (i := 1537) (by decide +kernel) (by decide +kernel)
theorem wd_1538 : Jvm.Cond.instanceMethod yX12_image ∈ gTbl := gT_of (i := 1538) (by decide +kernel) (by decide +kernel)
theorem wd_1539 : Jvm.Cond.selects RX12 yX12_image yX12_image ∈ gTbl := gT_of (i := 1539) (by decide +kernel) (by decide +kernel)
theorem wd_1366 : Jvm.Cond.code yX11_back cX11_back 2 (some .int) ∈ gTbl := gT_of (i := 1366) (by decide +kernel) (by decide +kernel)
theorem wd_1363 : Jvm.Cond.methodLink RL 293 yX11_back ∈ gTbl := gT_of (i := 1363) (by decide +kernel) (by decide +kernel)
theorem wd_1364 : Jvm.Cond.instanceMethod yX11_back ∈ gTbl := gT_of (i := 1364) (by decide +kernel) (by decide +kernel)
theorem wd_1365 : Jvm.Cond.selects RX11 yX11_back yX11_back ∈ gTbl := gT_of (i := 1365) (by decide +kernel) (by decide +kernel)
theorem wd_1548 : Jvm.Cond.code yX12_back cX12_back 3 (some .int) ∈ gTbl := gT_of (i := 1548) (by decide +kernel) (by decide +kernel)
theorem wd_1545 : Jvm.Cond.methodLink RL 296 yX12_back ∈ gTbl := gT_of (i := 1545) (by decide +kernel) (by decide +kernel)
theorem wd_1546 : Jvm.Cond.instanceMethod yX12_back ∈ gTbl := gT_of (i := 1546) (by decide +kernel) (by decide +kernel)
theorem wd_1547 : Jvm.Cond.selects RX12 yX12_back yX12_back ∈ gTbl := gT_of (i := 1547) (by decide +kernel) (by decide +kernel)
theorem wd_1370 : Jvm.Cond.code yX11_row cX11_row 4 (some .int) ∈ gTbl := gT_of (i := 1370) (by decide +kernel) (by decide +kernel)
theorem wd_1367 : Jvm.Cond.methodLink RL 297 yX11_row ∈ gTbl := gT_of (i := 1367) (by decide +kernel) (by decide +kernel)
theorem wd_1368 : Jvm.Cond.instanceMethod yX11_row ∈ gTbl := gT_of (i := 1368) (by decide +kernel) (by decide +kernel)
theorem wd_1369 : Jvm.Cond.selects RX11 yX11_row yX11_row ∈ gTbl := gT_of (i := 1369) (by decide +kernel) (by decide +kernel)
theorem wd_2173 : Jvm.Cond.code yX12_row cX12_row 5 (some .int) ∈ gTbl := gT_of (i := 2173) (by decide +kernel) (by decide +kernel)
theorem wd_2170 : Jvm.Cond.methodLink RL 300 yX12_row ∈ gTbl := gT_of (i := 2170) (by decide +kernel) (by decide +kernel)
theorem wd_2171 : Jvm.Cond.instanceMethod yX12_row ∈ gTbl := gT_of (i := 2171) (by decide +kernel) (by decide +kernel)
theorem wd_2172 : Jvm.Cond.selects RX12 yX12_row yX12_row ∈ gTbl := gT_of (i := 2172) (by decide +kernel) (by decide +kernel)
theorem wd_1378 : Jvm.Cond.code yX11_write cX11_write 5 (some .int) ∈ gTbl := gT_of (i := 1378) (by decide +kernel) (by decide +kernel)
theorem wd_1375 : Jvm.Cond.methodLink RL 303 yX11_write ∈ gTbl := gT_of (i := 1375) (by decide +kernel) (by decide +kernel)
theorem wd_1376 : Jvm.Cond.instanceMethod yX11_write ∈ gTbl := gT_of (i := 1376) (by decide +kernel) (by decide +kernel)
theorem wd_1377 : Jvm.Cond.selects RX11 yX11_write yX11_write ∈ gTbl := gT_of (i := 1377) (by decide +kernel) (by decide +kernel)
theorem wd_2177 : Jvm.Cond.code yX12_write cX12_write 5 (some .int) ∈ gTbl := gT_of (i := 2177) (by decide +kernel) (by decide +kernel)
theorem wd_2174 : Jvm.Cond.methodLink RL 307 yX12_write ∈ gTbl := gT_of (i := 2174) (by decide +kernel) (by decide +kernel)
theorem wd_2175 : Jvm.Cond.instanceMethod yX12_write ∈ gTbl := gT_of (i := 2175) (by decide +kernel) (by decide +kernel)
theorem wd_2176 : Jvm.Cond.selects RX12 yX12_write yX12_write ∈ gTbl := gT_of (i := 2176) (by decide +kernel) (by decide +kernel)
theorem wd_1389 : Jvm.Cond.code yX11_paste cX11_paste 6 (some .int) ∈ gTbl := gT_of (i := 1389) (by decide +kernel) (by decide +kernel)
theorem wd_1386 : Jvm.Cond.methodLink RL 308 yX11_paste ∈ gTbl := gT_of (i := 1386) (by decide +kernel) (by decide +kernel)
theorem wd_1387 : Jvm.Cond.instanceMethod yX11_paste ∈ gTbl := gT_of (i := 1387) (by decide +kernel) (by decide +kernel)
theorem wd_1388 : Jvm.Cond.selects RX11 yX11_paste yX11_paste ∈ gTbl := gT_of (i := 1388) (by decide +kernel) (by decide +kernel)
theorem wd_2184 : Jvm.Cond.code yX12_paste cX12_paste 7 (some .int) ∈ gTbl := gT_of (i := 2184) (by decide +kernel) (by decide +kernel)
theorem wd_2181 : Jvm.Cond.methodLink RL 311 yX12_paste ∈ gTbl := gT_of (i := 2181) (by decide +kernel) (by decide +kernel)
theorem wd_2182 : Jvm.Cond.instanceMethod yX12_paste ∈ gTbl := gT_of (i := 2182) (by decide +kernel) (by decide +kernel)
theorem wd_2183 : Jvm.Cond.selects RX12 yX12_paste yX12_paste ∈ gTbl := gT_of (i := 2183) (by decide +kernel) (by decide +kernel)
end
section
/-! ===== the tables of the methods ===== -/
def tb_X8_isSlot : TB := ([(0, .iload_n 0, 1), (1, .ifCond .lt 12, 3), (4, .iload_n 0, 1), (5, .iconst 4, 1), (6, .if_icmp .ge 7, 3), (9, .iconst 1, 1), (10, .goto 4, 3), (13, .iconst 0, 1), (14, .ireturn, 1)], 1, [], [], [])
theorem tk_X8_isSlot : TOK RX8 vwCl gTbl cX8_isSlot tb_X8_isSlot := ⟨by decide +kernel, fun _ h => absurd h List.not_mem_nil, fun _ h => absurd h List.not_mem_nil, fun _ h => absurd h List.not_mem_nil⟩
theorem in_X8 : ∀ w ∈ u_ws RX8 TX8 3, w ∈ gTbl := ae_in [354, 356, 358] (by decide +kernel) (by decide +kernel)
theorem fk_RX8_19 : FOK RX8 vwCl gTbl (19, 8, 2, 9) := ⟨RX8, TX8, 3, tyX8, rfl, by decide, in_X8, wd_352, tyX8_ok, nmX8, fun h => absurd h (by decide)⟩
def tb_X8_hasRow : TB := ([(0, .aload_n 0, 1), (1, .getfield 19, 3), (4, .iload_n 1, 1), (5, .iaload, 1), (6, .iconst (-1), 1), (7, .if_icmp .eq 7, 3), (14, .iconst 0, 1), (15, .ireturn, 1)], 2, [], [], [(19, 8, 2, 9)])
theorem tk_X8_hasRow : TOK RX8 vwCl gTbl cX8_hasRow tb_X8_hasRow := ⟨by decide +kernel, fun _ h => absurd h List.not_mem_nil, fun _ h => absurd h List.not_mem_nil, List.forall_mem_cons.mpr ⟨fk_RX8_19, fun _ h => absurd h List.not_mem_nil⟩⟩
theorem in_X11 : ∀ w ∈ u_ws RX11 TX11 16, w ∈ gTbl := ae_in [519, 521, 523, 525, 527, 529, 531, 533, 535, 537, 539, 541, 543, 545, 547, 549] (by decide +kernel) (by decide +kernel)
theorem fk_RX11_39 : FOK RX11 vwCl gTbl (39, 11, 4, 9) := ⟨RX11, TX11, 16, tyX11, rfl, by decide, in_X11, wd_507, tyX11_ok, nmX11, fun h => absurd h (by decide)⟩
def tb_X11_paste : TB := ([(0, .iload_n 1, 1), (1, .invokestatic 414, 3), (4, .ifCond .eq 10, 3), (7, .iload_n 3, 1), (8, .invokestatic 414, 3), (11, .ifCond .ne 6, 3), (14, .bipush (-2), 2), (16, .ireturn, 1), (17, .aload_n 0, 1), (18, .getfield 39, 3), (21, .iload_n 1, 1), (22, .invokevirtual 420, 3), (25, .ifCond .eq 14, 3), (39, .bipush (-6), 2), (41, .ireturn, 1)], 6, [], [], [(39, 11, 4, 9)])
theorem tk_X11_paste : TOK RX11 vwCl gTbl cX11_paste tb_X11_paste := ⟨by decide +kernel, fun _ h => absurd h List.not_mem_nil, fun _ h => absurd h List.not_mem_nil, List.forall_mem_cons.mpr ⟨fk_RX11_39, fun _ h => absurd h List.not_mem_nil⟩⟩
def tb_X12_in : TB := ([(0, .lload_n 0, 1), (1, .lload_n 2, 1), (2, .lcmp, 1), (3, .ifCond .lt 14, 3), (6, .lload_n 0, 1), (7, .lload 4, 2), (9, .lcmp, 1), (10, .ifCond .gt 7, 3), (13, .iconst 1, 1), (14, .goto 4, 3), (17, .iconst 0, 1), (18, .ireturn, 1)], 6, [], [], [])
theorem tk_X12_in : TOK RX12 vwCl gTbl cX12_in tb_X12_in := ⟨by decide +kernel, fun _ h => absurd h List.not_mem_nil, fun _ h => absurd h List.not_mem_nil, fun _ h => absurd h List.not_mem_nil⟩
def tb_X12_isSlot : TB := ([(0, .iload_n 0, 1), (1, .i2l, 1), (2, .lconst 0, 1), (3, .ldc2_w 275, 3), (6, .invokestatic 91, 3), (9, .ireturn, 1)], 1, [], [(275, 3)], [])
theorem tk_X12_isSlot : TOK RX12 vwCl gTbl cX12_isSlot tb_X12_isSlot := ⟨by decide +kernel, fun _ h => absurd h List.not_mem_nil, List.forall_mem_cons.mpr ⟨wd_1709, fun _ h => absurd h List.not_mem_nil⟩, fun _ h => absurd h List.not_mem_nil⟩
theorem in_X12 : ∀ w ∈ u_ws RX12 TX12 45, w ∈ gTbl := ae_in [1445, 1447, 1449, 1451, 1453, 1455, 1457, 1459, 1461, 1463, 1465, 1467, 1469, 1471, 1473, 1475, 1477, 1479, 1481, 1483, 1485, 1487, 1489, 1491, 1493, 1495, 1497, 1499, 1501, 1503, 1505, 1507, 1509, 1511, 1513, 1515, 1517, 1519, 1521, 1523, 1525, 1527, 1529, 1531, 1533] (by decide +kernel) (by decide +kernel)
theorem fk_RX12_73 : FOK RX12 vwCl gTbl (73, 12, 41, 9) := ⟨RX12, TX12, 45, tyX12, rfl, by decide, in_X12, wd_1441, tyX12_ok, nmX12, fun h => absurd h (by decide)⟩
def tb_X12_paste : TB := ([(0, .iload_n 1, 1), (1, .invokestatic 414, 3), (4, .ifCond .eq 10, 3), (7, .iload_n 3, 1), (8, .invokestatic 414, 3), (11, .ifCond .ne 6, 3), (14, .bipush (-2), 2), (16, .ireturn, 1), (17, .aload_n 0, 1), (18, .getfield 73, 3), (21, .iload_n 1, 1), (22, .iaload, 1), (23, .iconst (-1), 1), (24, .if_icmp .eq 13, 3), (37, .bipush (-6), 2), (39, .ireturn, 1)], 7, [], [], [(73, 12, 41, 9)])
theorem tk_X12_paste : TOK RX12 vwCl gTbl cX12_paste tb_X12_paste := ⟨by decide +kernel, fun _ h => absurd h List.not_mem_nil, fun _ h => absurd h List.not_mem_nil, List.forall_mem_cons.mpr ⟨fk_RX12_73, fun _ h => absurd h List.not_mem_nil⟩⟩
def tb_X11_write : TB := ([(0, .iload_n 1, 1), (1, .invokestatic 414, 3), (4, .ifCond .ne 6, 3), (7, .bipush (-2), 2), (9, .ireturn, 1), (10, .aload_n 0, 1), (11, .getfield 39, 3), (14, .iload_n 1, 1), (15, .invokevirtual 420, 3), (18, .ifCond .ne 6, 3), (21, .bipush (-6), 2), (23, .ireturn, 1)], 5, [], [], [(39, 11, 4, 9)])
theorem tk_X11_write : TOK RX11 vwCl gTbl cX11_write tb_X11_write := ⟨by decide +kernel, fun _ h => absurd h List.not_mem_nil, fun _ h => absurd h List.not_mem_nil, List.forall_mem_cons.mpr ⟨fk_RX11_39, fun _ h => absurd h List.not_mem_nil⟩⟩
def tb_X12_write : TB := ([(0, .iload_n 1, 1), (1, .invokestatic 414, 3), (4, .ifCond .ne 6, 3), (7, .bipush (-2), 2), (9, .ireturn, 1), (10, .aload_n 0, 1), (11, .getfield 73, 3), (14, .iload_n 1, 1), (15, .iaload, 1), (16, .iconst (-1), 1), (17, .if_icmp .ne 6, 3), (20, .bipush (-6), 2), (22, .ireturn, 1)], 5, [], [], [(73, 12, 41, 9)])
theorem tk_X12_write : TOK RX12 vwCl gTbl cX12_write tb_X12_write := ⟨by decide +kernel, fun _ h => absurd h List.not_mem_nil, fun _ h => absurd h List.not_mem_nil, List.forall_mem_cons.mpr ⟨fk_RX12_73, fun _ h => absurd h List.not_mem_nil⟩⟩
theorem fk_RX8_15 : FOK RX8 vwCl gTbl (15, 8, 1, 9) := ⟨RX8, TX8, 3, tyX8, rfl, by decide, in_X8, wd_350, tyX8_ok, nmX8, fun h => absurd h (by decide)⟩
theorem fk_RX8_9 : FOK RX8 vwCl gTbl (9, 8, 0, 9) := ⟨RX8, TX8, 3, tyX8, rfl, by decide, in_X8, wd_348, tyX8_ok, nmX8, fun h => absurd h (by decide)⟩
def tb_X8_renew : TB := ([(0, .aload_n 0, 1), (1, .getfield 15, 3), (4, .iload_n 1, 1), (5, .iload_n 2, 1), (6, .iastore, 1), (7, .aload_n 0, 1), (8, .getfield 19, 3), (11, .iload_n 1, 1), (12, .iload_n 3, 1), (13, .iastore, 1), (14, .iconst 0, 1), (15, .istore 4, 2), (17, .iload 4, 2), (19, .iload_n 3, 1), (20, .if_icmp .ge 22, 3), (23, .aload_n 0, 1), (24, .getfield 9, 3), (27, .iload_n 1, 1), (28, .bipush 60, 2), (30, .imul, 1), (31, .iload 4, 2), (33, .iadd, 1), (34, .lconst 0, 1), (35, .lastore, 1), (36, .iinc 4 1, 3), (39, .goto (-22), 3), (42, .return_, 1)], 5, [], [], [(15, 8, 1, 9), (19, 8, 2, 9), (9, 8, 0, 9)])
theorem tk_X8_renew : TOK RX8 vwCl gTbl cX8_renew tb_X8_renew := ⟨by decide +kernel, fun _ h => absurd h List.not_mem_nil, fun _ h => absurd h List.not_mem_nil, List.forall_mem_cons.mpr ⟨fk_RX8_15, List.forall_mem_cons.mpr ⟨fk_RX8_19, List.forall_mem_cons.mpr ⟨fk_RX8_9, fun _ h => absurd h List.not_mem_nil⟩⟩⟩⟩
def tb_X11_row : TB := ([(0, .iload_n 1, 1), (1, .invokestatic 414, 3), (4, .ifCond .eq 18, 3), (7, .iload_n 2, 1), (8, .ifCond .lt 14, 3), (11, .iload_n 2, 1), (12, .iconst 4, 1), (13, .if_icmp .ge 9, 3), (16, .iload_n 3, 1), (17, .bipush 60, 2), (19, .if_icmp .le 6, 3), (22, .bipush (-2), 2), (24, .ireturn, 1), (25, .iload_n 3, 1), (26, .ifCond .ge 6, 3), (29, .bipush (-3), 2), (31, .ireturn, 1), (32, .aload_n 0, 1), (33, .getfield 39, 3), (36, .iload_n 1, 1), (37, .iload_n 2, 1), (38, .iload_n 3, 1), (39, .invokevirtual 417, 3), (42, .iconst 0, 1), (43, .ireturn, 1)], 4, [], [], [(39, 11, 4, 9)])
theorem tk_X11_row : TOK RX11 vwCl gTbl cX11_row tb_X11_row := ⟨by decide +kernel, fun _ h => absurd h List.not_mem_nil, fun _ h => absurd h List.not_mem_nil, List.forall_mem_cons.mpr ⟨fk_RX11_39, fun _ h => absurd h List.not_mem_nil⟩⟩
theorem fk_RX12_76 : FOK RX12 vwCl gTbl (76, 12, 42, 9) := ⟨RX12, TX12, 45, tyX12, rfl, by decide, in_X12, wd_1442, tyX12_ok, nmX12, fun h => absurd h (by decide)⟩
theorem fk_RX12_79 : FOK RX12 vwCl gTbl (79, 12, 43, 9) := ⟨RX12, TX12, 45, tyX12, rfl, by decide, in_X12, wd_1443, tyX12_ok, nmX12, fun h => absurd h (by decide)⟩
def tb_X12_row : TB := ([(0, .iload_n 1, 1), (1, .invokestatic 414, 3), (4, .ifCond .eq 21, 3), (7, .iload_n 2, 1), (8, .i2l, 1), (9, .lconst 0, 1), (10, .ldc2_w 275, 3), (13, .invokestatic 91, 3), (16, .ifCond .eq 9, 3), (19, .iload_n 3, 1), (20, .bipush 60, 2), (22, .if_icmp .le 6, 3), (25, .bipush (-2), 2), (27, .ireturn, 1), (28, .iload_n 3, 1), (29, .ifCond .ge 6, 3), (32, .bipush (-3), 2), (34, .ireturn, 1), (35, .aload_n 0, 1), (36, .getfield 73, 3), (39, .iload_n 1, 1), (40, .iload_n 3, 1), (41, .iastore, 1), (42, .aload_n 0, 1), (43, .getfield 76, 3), (46, .iload_n 1, 1), (47, .iload_n 2, 1), (48, .iastore, 1), (49, .iconst 0, 1), (50, .istore 4, 2), (52, .iload 4, 2), (54, .bipush 60, 2), (56, .if_icmp .ge 22, 3), (59, .aload_n 0, 1), (60, .getfield 79, 3), (63, .bipush 60, 2), (65, .iload_n 1, 1), (66, .imul, 1), (67, .iload 4, 2), (69, .iadd, 1), (70, .lconst 0, 1), (71, .lastore, 1), (72, .iinc 4 1, 3), (75, .goto (-23), 3), (78, .iconst 0, 1), (79, .ireturn, 1)], 5, [], [(275, 3)], [(73, 12, 41, 9), (76, 12, 42, 9), (79, 12, 43, 9)])
theorem tk_X12_row : TOK RX12 vwCl gTbl cX12_row tb_X12_row := ⟨by decide +kernel, fun _ h => absurd h List.not_mem_nil, List.forall_mem_cons.mpr ⟨wd_1709, fun _ h => absurd h List.not_mem_nil⟩, List.forall_mem_cons.mpr ⟨fk_RX12_73, List.forall_mem_cons.mpr ⟨fk_RX12_76, List.forall_mem_cons.mpr ⟨fk_RX12_79, fun _ h => absurd h List.not_mem_nil⟩⟩⟩⟩
def tb_X11_hasBit : TB := ([(0, .iload_n 0, 1), (1, .iload_n 1, 1), (2, .ishr, 1), (3, .iconst 1, 1), (4, .iand, 1), (5, .iconst 1, 1), (6, .if_icmp .ne 7, 3), (13, .iconst 0, 1), (14, .ireturn, 1)], 2, [], [], [])
theorem tk_X11_hasBit : TOK RX11 vwCl gTbl cX11_hasBit tb_X11_hasBit := ⟨by decide +kernel, fun _ h => absurd h List.not_mem_nil, fun _ h => absurd h List.not_mem_nil, fun _ h => absurd h List.not_mem_nil⟩
theorem fk_RX11_411 : FOK RX11 vwCl gTbl (411, 11, 12, 0) := ⟨RX11, TX11, 16, tyX11, rfl, by decide, in_X11, wd_515, tyX11_ok, nmX11, fun _ => ⟨rfl, rfl⟩⟩
def tb_X11_back : TB := ([(0, .iload_n 1, 1), (1, .ifCond .lt 8, 3), (4, .iload_n 1, 1), (5, .iconst 3, 1), (6, .if_icmp .lt 6, 3), (9, .bipush (-2), 2), (11, .ireturn, 1), (12, .aload_n 0, 1), (13, .getfield 411, 3), (16, .iload_n 1, 1), (17, .invokestatic 183, 3), (20, .ifCond .ne 6, 3), (23, .bipush (-6), 2), (25, .ireturn, 1)], 2, [], [], [(411, 11, 12, 0)])
theorem tk_X11_back : TOK RX11 vwCl gTbl cX11_back tb_X11_back := ⟨by decide +kernel, fun _ h => absurd h List.not_mem_nil, fun _ h => absurd h List.not_mem_nil, List.forall_mem_cons.mpr ⟨fk_RX11_411, fun _ h => absurd h List.not_mem_nil⟩⟩
theorem fk_RX12_16 : FOK RX12 vwCl gTbl (16, 12, 3, 9) := ⟨RX12, TX12, 45, tyX12, rfl, by decide, in_X12, wd_1403, tyX12_ok, nmX12, fun h => absurd h (by decide)⟩
def tb_X12_back : TB := ([(0, .iload_n 1, 1), (1, .i2l, 1), (2, .lconst 0, 1), (3, .ldc2_w 89, 3), (6, .invokestatic 91, 3), (9, .ifCond .ne 6, 3), (12, .bipush (-2), 2), (14, .ireturn, 1), (15, .aload_n 0, 1), (16, .getfield 16, 3), (19, .iload_n 1, 1), (20, .baload, 1), (21, .ifCond .ne 6, 3), (24, .bipush (-6), 2), (26, .ireturn, 1)], 3, [], [(89, 2)], [(16, 12, 3, 9)])
theorem tk_X12_back : TOK RX12 vwCl gTbl cX12_back tb_X12_back := ⟨by decide +kernel, fun _ h => absurd h List.not_mem_nil, List.forall_mem_cons.mpr ⟨wd_1541, fun _ h => absurd h List.not_mem_nil⟩, List.forall_mem_cons.mpr ⟨fk_RX12_16, fun _ h => absurd h List.not_mem_nil⟩⟩
theorem in_X4 : ∀ w ∈ u_ws RX4 TX4 17, w ∈ gTbl := ae_in [252, 254, 256, 258, 260, 262, 264, 266, 268, 270, 272, 274, 276, 278, 280, 282, 284] (by decide +kernel) (by decide +kernel)
theorem fk_RX4_39 : FOK RX4 vwCl gTbl (39, 4, 0, 0) := ⟨RX4, TX4, 17, tyX4, rfl, by decide, in_X4, wd_195, tyX4_ok, nmX4, fun _ => ⟨rfl, rfl⟩⟩
theorem fk_RX4_43 : FOK RX4 vwCl gTbl (43, 4, 1, 0) := ⟨RX4, TX4, 17, tyX4, rfl, by decide, in_X4, wd_198, tyX4_ok, nmX4, fun _ => ⟨rfl, rfl⟩⟩
theorem fk_RX4_46 : FOK RX4 vwCl gTbl (46, 4, 2, 0) := ⟨RX4, TX4, 17, tyX4, rfl, by decide, in_X4, wd_202, tyX4_ok, nmX4, fun _ => ⟨rfl, rfl⟩⟩
theorem fk_RX4_49 : FOK RX4 vwCl gTbl (49, 4, 3, 0) := ⟨RX4, TX4, 17, tyX4, rfl, by decide, in_X4, wd_206, tyX4_ok, nmX4, fun _ => ⟨rfl, rfl⟩⟩
theorem fk_RX4_52 : FOK RX4 vwCl gTbl (52, 4, 4, 0) := ⟨RX4, TX4, 17, tyX4, rfl, by decide, in_X4, wd_210, tyX4_ok, nmX4, fun _ => ⟨rfl, rfl⟩⟩
theorem fk_RX4_55 : FOK RX4 vwCl gTbl (55, 4, 5, 0) := ⟨RX4, TX4, 17, tyX4, rfl, by decide, in_X4, wd_215, tyX4_ok, nmX4, fun _ => ⟨rfl, rfl⟩⟩
theorem fk_RX4_58 : FOK RX4 vwCl gTbl (58, 4, 6, 0) := ⟨RX4, TX4, 17, tyX4, rfl, by decide, in_X4, wd_218, tyX4_ok, nmX4, fun _ => ⟨rfl, rfl⟩⟩
theorem fk_RX4_61 : FOK RX4 vwCl gTbl (61, 4, 7, 0) := ⟨RX4, TX4, 17, tyX4, rfl, by decide, in_X4, wd_224, tyX4_ok, nmX4, fun _ => ⟨rfl, rfl⟩⟩
theorem fk_RX4_9 : FOK RX4 vwCl gTbl (9, 4, 8, 9) := ⟨RX4, TX4, 17, tyX4, rfl, by decide, in_X4, wd_227, tyX4_ok, nmX4, fun h => absurd h (by decide)⟩
theorem fk_RX4_15 : FOK RX4 vwCl gTbl (15, 4, 9, 9) := ⟨RX4, TX4, 17, tyX4, rfl, by decide, in_X4, wd_230, tyX4_ok, nmX4, fun h => absurd h (by decide)⟩
theorem fk_RX4_18 : FOK RX4 vwCl gTbl (18, 4, 10, 9) := ⟨RX4, TX4, 17, tyX4, rfl, by decide, in_X4, wd_233, tyX4_ok, nmX4, fun h => absurd h (by decide)⟩
theorem fk_RX4_21 : FOK RX4 vwCl gTbl (21, 4, 11, 9) := ⟨RX4, TX4, 17, tyX4, rfl, by decide, in_X4, wd_236, tyX4_ok, nmX4, fun h => absurd h (by decide)⟩
theorem fk_RX4_24 : FOK RX4 vwCl gTbl (24, 4, 12, 9) := ⟨RX4, TX4, 17, tyX4, rfl, by decide, in_X4, wd_239, tyX4_ok, nmX4, fun h => absurd h (by decide)⟩
theorem fk_RX4_27 : FOK RX4 vwCl gTbl (27, 4, 13, 9) := ⟨RX4, TX4, 17, tyX4, rfl, by decide, in_X4, wd_242, tyX4_ok, nmX4, fun h => absurd h (by decide)⟩
theorem fk_RX4_30 : FOK RX4 vwCl gTbl (30, 4, 14, 9) := ⟨RX4, TX4, 17, tyX4, rfl, by decide, in_X4, wd_245, tyX4_ok, nmX4, fun h => absurd h (by decide)⟩
theorem fk_RX4_33 : FOK RX4 vwCl gTbl (33, 4, 15, 9) := ⟨RX4, TX4, 17, tyX4, rfl, by decide, in_X4, wd_247, tyX4_ok, nmX4, fun h => absurd h (by decide)⟩
theorem fk_RX4_36 : FOK RX4 vwCl gTbl (36, 4, 16, 9) := ⟨RX4, TX4, 17, tyX4, rfl, by decide, in_X4, wd_249, tyX4_ok, nmX4, fun h => absurd h (by decide)⟩
def tb_X4_copyFrom : TB := ([(0, .aload_n 0, 1), (1, .aload_n 1, 1), (2, .getfield 39, 3), (5, .putfield 39, 3), (8, .aload_n 0, 1), (9, .aload_n 1, 1), (10, .getfield 43, 3), (13, .putfield 43, 3), (16, .aload_n 0, 1), (17, .aload_n 1, 1), (18, .getfield 46, 3), (21, .putfield 46, 3), (24, .aload_n 0, 1), (25, .aload_n 1, 1), (26, .getfield 49, 3), (29, .putfield 49, 3), (32, .aload_n 0, 1), (33, .aload_n 1, 1), (34, .getfield 52, 3), (37, .putfield 52, 3), (40, .aload_n 0, 1), (41, .aload_n 1, 1), (42, .getfield 55, 3), (45, .putfield 55, 3), (48, .aload_n 0, 1), (49, .aload_n 1, 1), (50, .getfield 58, 3), (53, .putfield 58, 3), (56, .aload_n 0, 1), (57, .aload_n 1, 1), (58, .getfield 61, 3), (61, .putfield 61, 3), (64, .aload_n 1, 1), (65, .getfield 9, 3), (68, .iconst 0, 1), (69, .aload_n 0, 1), (70, .getfield 9, 3), (73, .iconst 0, 1), (74, .iconst 5, 1), (75, .invokestatic 64, 3), (78, .aload_n 1, 1), (79, .getfield 15, 3), (82, .iconst 0, 1), (83, .aload_n 0, 1), (84, .getfield 15, 3), (87, .iconst 0, 1), (88, .iconst 5, 1), (89, .invokestatic 64, 3), (92, .aload_n 1, 1), (93, .getfield 18, 3), (96, .iconst 0, 1), (97, .aload_n 0, 1), (98, .getfield 18, 3), (101, .iconst 0, 1), (102, .iconst 5, 1), (103, .invokestatic 64, 3), (106, .aload_n 1, 1), (107, .getfield 21, 3), (110, .iconst 0, 1), (111, .aload_n 0, 1), (112, .getfield 21, 3), (115, .iconst 0, 1), (116, .iconst 5, 1), (117, .invokestatic 64, 3), (120, .aload_n 1, 1), (121, .getfield 24, 3), (124, .iconst 0, 1), (125, .aload_n 0, 1), (126, .getfield 24, 3), (129, .iconst 0, 1), (130, .iconst 5, 1), (131, .invokestatic 64, 3), (134, .aload_n 1, 1), (135, .getfield 27, 3), (138, .iconst 0, 1), (139, .aload_n 0, 1), (140, .getfield 27, 3), (143, .iconst 0, 1), (144, .bipush 7, 2), (146, .invokestatic 64, 3), (149, .aload_n 1, 1), (150, .getfield 30, 3), (153, .iconst 0, 1), (154, .aload_n 0, 1), (155, .getfield 30, 3), (158, .iconst 0, 1), (159, .bipush 7, 2), (161, .invokestatic 64, 3), (164, .aload_n 1, 1), (165, .getfield 33, 3), (168, .iconst 0, 1), (169, .aload_n 0, 1), (170, .getfield 33, 3), (173, .iconst 0, 1), (174, .bipush 35, 2), (176, .invokestatic 64, 3), (179, .aload_n 1, 1), (180, .getfield 36, 3), (183, .iconst 0, 1), (184, .aload_n 0, 1), (185, .getfield 36, 3), (188, .iconst 0, 1), (189, .bipush 35, 2), (191, .invokestatic 64, 3), (194, .return_, 1)], 2, [], [], [(39, 4, 0, 0), (43, 4, 1, 0), (46, 4, 2, 0), (49, 4, 3, 0), (52, 4, 4, 0), (55, 4, 5, 0), (58, 4, 6, 0), (61, 4, 7, 0), (9, 4, 8, 9), (15, 4, 9, 9), (18, 4, 10, 9), (21, 4, 11, 9), (24, 4, 12, 9), (27, 4, 13, 9), (30, 4, 14, 9), (33, 4, 15, 9), (36, 4, 16, 9)])
theorem tk_X4_copyFrom : TOK RX4 vwCl gTbl cX4_copyFrom tb_X4_copyFrom := ⟨by decide +kernel, fun _ h => absurd h List.not_mem_nil, fun _ h => absurd h List.not_mem_nil, List.forall_mem_cons.mpr ⟨fk_RX4_39, List.forall_mem_cons.mpr ⟨fk_RX4_43, List.forall_mem_cons.mpr ⟨fk_RX4_46, List.forall_mem_cons.mpr ⟨fk_RX4_49, List.forall_mem_cons.mpr ⟨fk_RX4_52, List.forall_mem_cons.mpr ⟨fk_RX4_55, List.forall_mem_cons.mpr ⟨fk_RX4_58, List.forall_mem_cons.mpr ⟨fk_RX4_61, List.forall_mem_cons.mpr ⟨fk_RX4_9, List.forall_mem_cons.mpr ⟨fk_RX4_15, List.forall_mem_cons.mpr ⟨fk_RX4_18, List.forall_mem_cons.mpr ⟨fk_RX4_21, List.forall_mem_cons.mpr ⟨fk_RX4_24, List.forall_mem_cons.mpr ⟨fk_RX4_27, List.forall_mem_cons.mpr ⟨fk_RX4_30, List.forall_mem_cons.mpr ⟨fk_RX4_33, List.forall_mem_cons.mpr ⟨fk_RX4_36, fun _ h => absurd h List.not_mem_nil⟩⟩⟩⟩⟩⟩⟩⟩⟩⟩⟩⟩⟩⟩⟩⟩⟩⟩
theorem in_X0 : ∀ w ∈ u_ws RX0 TX0 4, w ∈ gTbl := ae_in [323, 325, 327, 329] (by decide +kernel) (by decide +kernel)
theorem fk_RX0_21 : FOK RX0 vwCl gTbl (21, 0, 0, 0) := ⟨RX0, TX0, 4, tyX0, rfl, by decide, in_X0, wd_318, tyX0_ok, nmX0, fun _ => ⟨rfl, rfl⟩⟩
theorem fk_RX0_9 : FOK RX0 vwCl gTbl (9, 0, 1, 9) := ⟨RX0, TX0, 4, tyX0, rfl, by decide, in_X0, wd_320, tyX0_ok, nmX0, fun h => absurd h (by decide)⟩
theorem fk_RX0_15 : FOK RX0 vwCl gTbl (15, 0, 2, 9) := ⟨RX0, TX0, 4, tyX0, rfl, by decide, in_X0, wd_321, tyX0_ok, nmX0, fun h => absurd h (by decide)⟩
theorem fk_RX0_18 : FOK RX0 vwCl gTbl (18, 0, 3, 9) := ⟨RX0, TX0, 4, tyX0, rfl, by decide, in_X0, wd_322, tyX0_ok, nmX0, fun h => absurd h (by decide)⟩
def tb_X0_copyFrom : TB := ([(0, .aload_n 0, 1), (1, .aload_n 1, 1), (2, .getfield 21, 3), (5, .putfield 21, 3), (8, .aload_n 1, 1), (9, .getfield 9, 3), (12, .iconst 0, 1), (13, .aload_n 0, 1), (14, .getfield 9, 3), (17, .iconst 0, 1), (18, .bipush 30, 2), (20, .invokestatic 34, 3), (23, .aload_n 1, 1), (24, .getfield 15, 3), (27, .iconst 0, 1), (28, .aload_n 0, 1), (29, .getfield 15, 3), (32, .iconst 0, 1), (33, .bipush 30, 2), (35, .invokestatic 34, 3), (38, .aload_n 1, 1), (39, .getfield 18, 3), (42, .iconst 0, 1), (43, .aload_n 0, 1), (44, .getfield 18, 3), (47, .iconst 0, 1), (48, .bipush 30, 2), (50, .invokestatic 34, 3), (53, .return_, 1)], 2, [], [], [(21, 0, 0, 0), (9, 0, 1, 9), (15, 0, 2, 9), (18, 0, 3, 9)])
theorem tk_X0_copyFrom : TOK RX0 vwCl gTbl cX0_copyFrom tb_X0_copyFrom := ⟨by decide +kernel, fun _ h => absurd h List.not_mem_nil, fun _ h => absurd h List.not_mem_nil, List.forall_mem_cons.mpr ⟨fk_RX0_21, List.forall_mem_cons.mpr ⟨fk_RX0_9, List.forall_mem_cons.mpr ⟨fk_RX0_15, List.forall_mem_cons.mpr ⟨fk_RX0_18, fun _ h => absurd h List.not_mem_nil⟩⟩⟩⟩⟩
theorem in_X9 : ∀ w ∈ u_ws RX9 TX9 2, w ∈ gTbl := ae_in [336, 338] (by decide +kernel) (by decide +kernel)
theorem fk_RX9_10 : FOK RX9 vwCl gTbl (10, 9, 0, 9) := ⟨RX9, TX9, 2, tyX9, rfl, by decide, in_X9, wd_332, tyX9_ok, nmX9, fun h => absurd h (by decide)⟩
theorem fk_RX9_19 : FOK RX9 vwCl gTbl (19, 9, 1, 9) := ⟨RX9, TX9, 2, tyX9, rfl, by decide, in_X9, wd_334, tyX9_ok, nmX9, fun h => absurd h (by decide)⟩
def tb_X9_copyFrom : TB := ([(0, .aload_n 0, 1), (1, .getfield 10, 3), (4, .aload_n 1, 1), (5, .getfield 10, 3), (8, .invokevirtual 23, 3), (11, .aload_n 0, 1), (12, .getfield 19, 3), (15, .aload_n 1, 1), (16, .getfield 19, 3), (19, .invokevirtual 27, 3), (22, .return_, 1)], 2, [], [], [(10, 9, 0, 9), (19, 9, 1, 9)])
theorem tk_X9_copyFrom : TOK RX9 vwCl gTbl cX9_copyFrom tb_X9_copyFrom := ⟨by decide +kernel, fun _ h => absurd h List.not_mem_nil, fun _ h => absurd h List.not_mem_nil, List.forall_mem_cons.mpr ⟨fk_RX9_10, List.forall_mem_cons.mpr ⟨fk_RX9_19, fun _ h => absurd h List.not_mem_nil⟩⟩⟩
theorem fk_RX11_32 : FOK RX11 vwCl gTbl (32, 11, 3, 9) := ⟨RX11, TX11, 16, tyX11, rfl, by decide, in_X11, wd_506, tyX11_ok, nmX11, fun h => absurd h (by decide)⟩
theorem fk_RX11_28 : FOK RX11 vwCl gTbl (28, 11, 2, 9) := ⟨RX11, TX11, 16, tyX11, rfl, by decide, in_X11, wd_505, tyX11_ok, nmX11, fun h => absurd h (by decide)⟩
def tb_X11_image : TB := ([(0, .iload_n 1, 1), (1, .ifCond .lt 8, 3), (4, .iload_n 1, 1), (5, .iconst 3, 1), (6, .if_icmp .lt 6, 3), (9, .bipush (-2), 2), (11, .ireturn, 1), (12, .aload_n 0, 1), (13, .getfield 32, 3), (16, .iload_n 1, 1), (17, .aaload, 1), (18, .aload_n 0, 1), (19, .getfield 28, 3), (22, .invokevirtual 408, 3), (25, .aload_n 0, 1), (26, .dup, 1), (27, .getfield 411, 3), (30, .iconst 1, 1), (31, .iload_n 1, 1), (32, .ishl, 1), (33, .ior, 1), (34, .putfield 411, 3), (37, .iconst 0, 1), (38, .ireturn, 1)], 2, [], [], [(32, 11, 3, 9), (28, 11, 2, 9), (411, 11, 12, 0)])
theorem tk_X11_image : TOK RX11 vwCl gTbl cX11_image tb_X11_image := ⟨by decide +kernel, fun _ h => absurd h List.not_mem_nil, fun _ h => absurd h List.not_mem_nil, List.forall_mem_cons.mpr ⟨fk_RX11_32, List.forall_mem_cons.mpr ⟨fk_RX11_28, List.forall_mem_cons.mpr ⟨fk_RX11_411, fun _ h => absurd h List.not_mem_nil⟩⟩⟩⟩
theorem fk_RX12_13 : FOK RX12 vwCl gTbl (13, 12, 2, 9) := ⟨RX12, TX12, 45, tyX12, rfl, by decide, in_X12, wd_1402, tyX12_ok, nmX12, fun h => absurd h (by decide)⟩
theorem fk_RX12_9 : FOK RX12 vwCl gTbl (9, 12, 1, 9) := ⟨RX12, TX12, 45, tyX12, rfl, by decide, in_X12, wd_1401, tyX12_ok, nmX12, fun h => absurd h (by decide)⟩
def tb_X12_image : TB := ([(0, .iload_n 1, 1), (1, .i2l, 1), (2, .lconst 0, 1), (3, .ldc2_w 89, 3), (6, .invokestatic 91, 3), (9, .ifCond .ne 6, 3), (12, .bipush (-2), 2), (14, .ireturn, 1), (15, .iconst 0, 1), (16, .istore_n 2, 1), (17, .iload_n 2, 1), (18, .bipush 124, 2), (20, .if_icmp .ge 26, 3), (23, .aload_n 0, 1), (24, .getfield 13, 3), (27, .bipush 124, 2), (29, .iload_n 1, 1), (30, .imul, 1), (31, .iload_n 2, 1), (32, .iadd, 1), (33, .aload_n 0, 1), (34, .getfield 9, 3), (37, .iload_n 2, 1), (38, .iaload, 1), (39, .iastore, 1), (40, .iinc 2 1, 3), (43, .goto (-26), 3), (46, .aload_n 0, 1), (47, .getfield 16, 3), (50, .iload_n 1, 1), (51, .iconst 1, 1), (52, .bastore, 1), (53, .iconst 0, 1), (54, .ireturn, 1)], 3, [], [(89, 2)], [(13, 12, 2, 9), (9, 12, 1, 9), (16, 12, 3, 9)])
theorem tk_X12_image : TOK RX12 vwCl gTbl cX12_image tb_X12_image := ⟨by decide +kernel, fun _ h => absurd h List.not_mem_nil, List.forall_mem_cons.mpr ⟨wd_1541, fun _ h => absurd h List.not_mem_nil⟩, List.forall_mem_cons.mpr ⟨fk_RX12_13, List.forall_mem_cons.mpr ⟨fk_RX12_9, List.forall_mem_cons.mpr ⟨fk_RX12_16, fun _ h => absurd h List.not_mem_nil⟩⟩⟩⟩
def tb_X8_countRows : TB := ([(0, .iconst 0, 1), (1, .istore_n 1, 1), (2, .iconst 0, 1), (3, .istore_n 2, 1), (4, .iload_n 2, 1), (5, .iconst 4, 1), (6, .if_icmp .ge 20, 3), (9, .aload_n 0, 1), (10, .iload_n 2, 1), (11, .invokevirtual 22, 3), (14, .ifCond .eq 6, 3), (20, .iinc 2 1, 3), (23, .goto (-19), 3), (26, .iload_n 1, 1), (27, .ireturn, 1)], 3, [], [], [])
theorem tk_X8_countRows : TOK RX8 vwCl gTbl cX8_countRows tb_X8_countRows := ⟨by decide +kernel, fun _ h => absurd h List.not_mem_nil, fun _ h => absurd h List.not_mem_nil, fun _ h => absurd h List.not_mem_nil⟩
theorem fk_RX11_45 : FOK RX11 vwCl gTbl (45, 9, 0, 9) := ⟨RX9, TX9, 2, tyX9, rfl, by decide, in_X9, wd_333, tyX9_ok, nmX9, fun h => absurd h (by decide)⟩
theorem fk_RX11_297 : FOK RX11 vwCl gTbl (297, 4, 1, 0) := ⟨RX4, TX4, 17, tyX4, rfl, by decide, in_X4, wd_201, tyX4_ok, nmX4, fun _ => ⟨rfl, rfl⟩⟩
theorem fk_RX11_201 : FOK RX11 vwCl gTbl (201, 4, 2, 0) := ⟨RX4, TX4, 17, tyX4, rfl, by decide, in_X4, wd_205, tyX4_ok, nmX4, fun _ => ⟨rfl, rfl⟩⟩
theorem fk_RX11_399 : FOK RX11 vwCl gTbl (399, 4, 3, 0) := ⟨RX4, TX4, 17, tyX4, rfl, by decide, in_X4, wd_208, tyX4_ok, nmX4, fun _ => ⟨rfl, rfl⟩⟩
theorem fk_RX11_291 : FOK RX11 vwCl gTbl (291, 4, 4, 0) := ⟨RX4, TX4, 17, tyX4, rfl, by decide, in_X4, wd_214, tyX4_ok, nmX4, fun _ => ⟨rfl, rfl⟩⟩
theorem fk_RX11_402 : FOK RX11 vwCl gTbl (402, 4, 5, 0) := ⟨RX4, TX4, 17, tyX4, rfl, by decide, in_X4, wd_217, tyX4_ok, nmX4, fun _ => ⟨rfl, rfl⟩⟩
theorem fk_RX11_303 : FOK RX11 vwCl gTbl (303, 4, 6, 0) := ⟨RX4, TX4, 17, tyX4, rfl, by decide, in_X4, wd_222, tyX4_ok, nmX4, fun _ => ⟨rfl, rfl⟩⟩
theorem fk_RX11_244 : FOK RX11 vwCl gTbl (244, 4, 7, 0) := ⟨RX4, TX4, 17, tyX4, rfl, by decide, in_X4, wd_226, tyX4_ok, nmX4, fun _ => ⟨rfl, rfl⟩⟩
theorem fk_RX11_121 : FOK RX11 vwCl gTbl (121, 9, 1, 9) := ⟨RX9, TX9, 2, tyX9, rfl, by decide, in_X9, wd_335, tyX9_ok, nmX9, fun h => absurd h (by decide)⟩
theorem fk_RX11_125 : FOK RX11 vwCl gTbl (125, 0, 0, 0) := ⟨RX0, TX0, 4, tyX0, rfl, by decide, in_X0, wd_319, tyX0_ok, nmX0, fun _ => ⟨rfl, rfl⟩⟩
theorem fk_RX11_133 : FOK RX11 vwCl gTbl (133, 4, 0, 0) := ⟨RX4, TX4, 17, tyX4, rfl, by decide, in_X4, wd_197, tyX4_ok, nmX4, fun _ => ⟨rfl, rfl⟩⟩
theorem fk_RX11_10 : FOK RX11 vwCl gTbl (10, 11, 0, 9) := ⟨RX11, TX11, 16, tyX11, rfl, by decide, in_X11, wd_503, tyX11_ok, nmX11, fun h => absurd h (by decide)⟩
theorem in_X10 : ∀ w ∈ u_ws RX10 TX10 6, w ∈ gTbl := ae_in [169, 171, 173, 175, 177, 179] (by decide +kernel) (by decide +kernel)
theorem fk_RX11_92 : FOK RX11 vwCl gTbl (92, 10, 1, 0) := ⟨RX10, TX10, 6, tyX10, rfl, by decide, in_X10, wd_160, tyX10_ok, nmX10, fun _ => ⟨rfl, rfl⟩⟩
def tb_X11_count : TB := ([(0, .iload_n 1, 1), (1, .tableswitch 174 0 10 #[59, 70, 81, 92, 103, 114, 125, 136, 147, 158, 166], 59), (60, .aload_n 0, 1), (61, .getfield 28, 3), (64, .getfield 45, 3), (67, .getfield 297, 3), (70, .ireturn, 1), (71, .aload_n 0, 1), (72, .getfield 28, 3), (75, .getfield 45, 3), (78, .getfield 201, 3), (81, .ireturn, 1), (82, .aload_n 0, 1), (83, .getfield 28, 3), (86, .getfield 45, 3), (89, .getfield 399, 3), (92, .ireturn, 1), (93, .aload_n 0, 1), (94, .getfield 28, 3), (97, .getfield 45, 3), (100, .getfield 291, 3), (103, .ireturn, 1), (104, .aload_n 0, 1), (105, .getfield 28, 3), (108, .getfield 45, 3), (111, .getfield 402, 3), (114, .ireturn, 1), (115, .aload_n 0, 1), (116, .getfield 28, 3), (119, .getfield 45, 3), (122, .getfield 303, 3), (125, .ireturn, 1), (126, .aload_n 0, 1), (127, .getfield 28, 3), (130, .getfield 45, 3), (133, .getfield 244, 3), (136, .ireturn, 1), (137, .aload_n 0, 1), (138, .getfield 28, 3), (141, .getfield 121, 3), (144, .getfield 125, 3), (147, .ireturn, 1), (148, .aload_n 0, 1), (149, .getfield 28, 3), (152, .getfield 45, 3), (155, .getfield 133, 3), (158, .ireturn, 1), (159, .aload_n 0, 1), (160, .getfield 10, 3), (163, .getfield 92, 3), (166, .ireturn, 1), (167, .aload_n 0, 1), (168, .getfield 39, 3), (171, .invokevirtual 405, 3), (174, .ireturn, 1), (175, .iconst (-1), 1), (176, .ireturn, 1)], 2, [], [], [(28, 11, 2, 9), (45, 9, 0, 9), (297, 4, 1, 0), (201, 4, 2, 0), (399, 4, 3, 0), (291, 4, 4, 0), (402, 4, 5, 0), (303, 4, 6, 0), (244, 4, 7, 0), (121, 9, 1, 9), (125, 0, 0, 0), (133, 4, 0, 0), (10, 11, 0, 9), (92, 10, 1, 0), (39, 11, 4, 9)])
theorem tk_X11_count : TOK RX11 vwCl gTbl cX11_count tb_X11_count := ⟨by decide +kernel, fun _ h => absurd h List.not_mem_nil, fun _ h => absurd h List.not_mem_nil, List.forall_mem_cons.mpr ⟨fk_RX11_28, List.forall_mem_cons.mpr ⟨fk_RX11_45, List.forall_mem_cons.mpr ⟨fk_RX11_297, List.forall_mem_cons.mpr ⟨fk_RX11_201, List.forall_mem_cons.mpr ⟨fk_RX11_399, List.forall_mem_cons.mpr ⟨fk_RX11_291, List.forall_mem_cons.mpr ⟨fk_RX11_402, List.forall_mem_cons.mpr ⟨fk_RX11_303, List.forall_mem_cons.mpr ⟨fk_RX11_244, List.forall_mem_cons.mpr ⟨fk_RX11_121, List.forall_mem_cons.mpr ⟨fk_RX11_125, List.forall_mem_cons.mpr ⟨fk_RX11_133, List.forall_mem_cons.mpr ⟨fk_RX11_10, List.forall_mem_cons.mpr ⟨fk_RX11_92, List.forall_mem_cons.mpr ⟨fk_RX11_39, fun _ h => absurd h List.not_mem_nil⟩⟩⟩⟩⟩⟩⟩⟩⟩⟩⟩⟩⟩⟩⟩⟩
theorem fk_RX12_113 : FOK RX12 vwCl gTbl (113, 12, 5, 0) := ⟨RX12, TX12, 45, tyX12, rfl, by decide, in_X12, wd_1405, tyX12_ok, nmX12, fun _ => ⟨rfl, rfl⟩⟩
def tb_X12_count : TB := ([(0, .iload_n 1, 1), (1, .i2l, 1), (2, .lconst 0, 1), (3, .ldc2_w 500, 3), (6, .invokestatic 91, 3), (9, .ifCond .eq 10, 3), (12, .aload_n 0, 1), (13, .getfield 9, 3), (16, .iload_n 1, 1), (17, .iaload, 1), (18, .ireturn, 1), (19, .iload_n 1, 1), (20, .bipush 9, 2), (22, .if_icmp .ne 8, 3), (25, .aload_n 0, 1), (26, .getfield 113, 3), (29, .ireturn, 1), (30, .iload_n 1, 1), (31, .bipush 10, 2), (33, .if_icmp .eq 5, 3), (36, .iconst (-1), 1), (37, .ireturn, 1), (38, .iconst 0, 1), (39, .istore_n 2, 1), (40, .iconst 0, 1), (41, .istore_n 3, 1), (42, .iload_n 3, 1), (43, .iconst 4, 1), (44, .if_icmp .ge 27, 3), (47, .iload_n 2, 1), (48, .aload_n 0, 1), (49, .getfield 73, 3), (52, .iload_n 3, 1), (53, .iaload, 1), (54, .iconst (-1), 1), (55, .if_icmp .ne 7, 3), (58, .iconst 0, 1), (59, .goto 4, 3), (63, .iadd, 1), (64, .istore_n 2, 1), (65, .iinc 3 1, 3), (68, .goto (-26), 3), (71, .iload_n 2, 1), (72, .ireturn, 1)], 4, [], [(500, 8)], [(9, 12, 1, 9), (113, 12, 5, 0), (73, 12, 41, 9)])
theorem tk_X12_count : TOK RX12 vwCl gTbl cX12_count tb_X12_count := ⟨by decide +kernel, fun _ h => absurd h List.not_mem_nil, List.forall_mem_cons.mpr ⟨wd_2169, fun _ h => absurd h List.not_mem_nil⟩, List.forall_mem_cons.mpr ⟨fk_RX12_9, List.forall_mem_cons.mpr ⟨fk_RX12_113, List.forall_mem_cons.mpr ⟨fk_RX12_73, fun _ h => absurd h List.not_mem_nil⟩⟩⟩⟩
def tb_X11_isMan : TB := ([(0, .iload_n 1, 1), (1, .ifCond .lt 21, 3), (4, .iload_n 1, 1), (5, .aload_n 0, 1), (6, .getfield 28, 3), (9, .getfield 45, 3), (12, .getfield 303, 3), (15, .if_icmp .ge 7, 3), (22, .iconst 0, 1), (23, .ireturn, 1)], 2, [], [], [(28, 11, 2, 9), (45, 9, 0, 9), (303, 4, 6, 0)])
theorem tk_X11_isMan : TOK RX11 vwCl gTbl cX11_isMan tb_X11_isMan := ⟨by decide +kernel, fun _ h => absurd h List.not_mem_nil, fun _ h => absurd h List.not_mem_nil, List.forall_mem_cons.mpr ⟨fk_RX11_28, List.forall_mem_cons.mpr ⟨fk_RX11_45, List.forall_mem_cons.mpr ⟨fk_RX11_303, fun _ h => absurd h List.not_mem_nil⟩⟩⟩⟩
def tb_X11_rate : TB := ([(0, .aload_n 0, 1), (1, .iload_n 1, 1), (2, .invokevirtual 156, 3), (5, .ifCond .eq 13, 3), (18, .bipush (-2), 2), (20, .ireturn, 1)], 4, [], [], [])
theorem tk_X11_rate : TOK RX11 vwCl gTbl cX11_rate tb_X11_rate := ⟨by decide +kernel, fun _ h => absurd h List.not_mem_nil, fun _ h => absurd h List.not_mem_nil, fun _ h => absurd h List.not_mem_nil⟩
def tb_X12_men : TB := ([(0, .aload_n 0, 1), (1, .getfield 9, 3), (4, .iconst 5, 1), (5, .iaload, 1), (6, .ireturn, 1)], 1, [], [], [(9, 12, 1, 9)])
theorem tk_X12_men : TOK RX12 vwCl gTbl cX12_men tb_X12_men := ⟨by decide +kernel, fun _ h => absurd h List.not_mem_nil, fun _ h => absurd h List.not_mem_nil, List.forall_mem_cons.mpr ⟨fk_RX12_9, fun _ h => absurd h List.not_mem_nil⟩⟩
def tb_X12_isMan : TB := ([(0, .iload_n 1, 1), (1, .i2l, 1), (2, .lconst 0, 1), (3, .aload_n 0, 1), (4, .invokevirtual 95, 3), (7, .iconst 1, 1), (8, .isub, 1), (9, .i2l, 1), (10, .invokestatic 91, 3), (13, .ireturn, 1)], 2, [], [], [])
theorem tk_X12_isMan : TOK RX12 vwCl gTbl cX12_isMan tb_X12_isMan := ⟨by decide +kernel, fun _ h => absurd h List.not_mem_nil, fun _ h => absurd h List.not_mem_nil, fun _ h => absurd h List.not_mem_nil⟩
def tb_X12_rate : TB := ([(0, .aload_n 0, 1), (1, .iload_n 1, 1), (2, .invokevirtual 236, 3), (5, .ifCond .eq 15, 3), (20, .bipush (-2), 2), (22, .ireturn, 1)], 4, [], [], [])
theorem tk_X12_rate : TOK RX12 vwCl gTbl cX12_rate tb_X12_rate := ⟨by decide +kernel, fun _ h => absurd h List.not_mem_nil, fun _ h => absurd h List.not_mem_nil, fun _ h => absurd h List.not_mem_nil⟩
def tb_X11_isField : TB := ([(0, .iload_n 1, 1), (1, .ifCond .lt 21, 3), (4, .iload_n 1, 1), (5, .aload_n 0, 1), (6, .getfield 28, 3), (9, .getfield 45, 3), (12, .getfield 291, 3), (15, .if_icmp .ge 7, 3), (22, .iconst 0, 1), (23, .ireturn, 1)], 2, [], [], [(28, 11, 2, 9), (45, 9, 0, 9), (291, 4, 4, 0)])
theorem tk_X11_isField : TOK RX11 vwCl gTbl cX11_isField tb_X11_isField := ⟨by decide +kernel, fun _ h => absurd h List.not_mem_nil, fun _ h => absurd h List.not_mem_nil, List.forall_mem_cons.mpr ⟨fk_RX11_28, List.forall_mem_cons.mpr ⟨fk_RX11_45, List.forall_mem_cons.mpr ⟨fk_RX11_291, fun _ h => absurd h List.not_mem_nil⟩⟩⟩⟩
def tb_X11_luck : TB := ([(0, .aload_n 0, 1), (1, .iload_n 3, 1), (2, .invokevirtual 139, 3), (5, .ifCond .eq 21, 3), (26, .bipush (-2), 2), (28, .ireturn, 1)], 6, [], [], [])
theorem tk_X11_luck : TOK RX11 vwCl gTbl cX11_luck tb_X11_luck := ⟨by decide +kernel, fun _ h => absurd h List.not_mem_nil, fun _ h => absurd h List.not_mem_nil, fun _ h => absurd h List.not_mem_nil⟩
def tb_X12_isSeed : TB := ([(0, .iload_n 0, 1), (1, .i2l, 1), (2, .lconst 0, 1), (3, .ldc2_w 487, 3), (6, .invokestatic 91, 3), (9, .ireturn, 1)], 1, [], [(487, 2000000000)], [])
theorem tk_X12_isSeed : TOK RX12 vwCl gTbl cX12_isSeed tb_X12_isSeed := ⟨by decide +kernel, fun _ h => absurd h List.not_mem_nil, List.forall_mem_cons.mpr ⟨wd_2145, fun _ h => absurd h List.not_mem_nil⟩, fun _ h => absurd h List.not_mem_nil⟩
def tb_X12_fields : TB := ([(0, .aload_n 0, 1), (1, .getfield 9, 3), (4, .iconst 3, 1), (5, .iaload, 1), (6, .ireturn, 1)], 1, [], [], [(9, 12, 1, 9)])
theorem tk_X12_fields : TOK RX12 vwCl gTbl cX12_fields tb_X12_fields := ⟨by decide +kernel, fun _ h => absurd h List.not_mem_nil, fun _ h => absurd h List.not_mem_nil, List.forall_mem_cons.mpr ⟨fk_RX12_9, fun _ h => absurd h List.not_mem_nil⟩⟩
def tb_X12_isField : TB := ([(0, .lload_n 1, 1), (1, .lconst 0, 1), (2, .aload_n 0, 1), (3, .invokevirtual 106, 3), (6, .iconst 1, 1), (7, .isub, 1), (8, .i2l, 1), (9, .invokestatic 91, 3), (12, .ireturn, 1)], 3, [], [], [])
theorem tk_X12_isField : TOK RX12 vwCl gTbl cX12_isField tb_X12_isField := ⟨by decide +kernel, fun _ h => absurd h List.not_mem_nil, fun _ h => absurd h List.not_mem_nil, fun _ h => absurd h List.not_mem_nil⟩
def tb_X12_luck : TB := ([(0, .iload_n 1, 1), (1, .invokestatic 489, 3), (4, .ifCond .eq 24, 3), (7, .iload_n 2, 1), (8, .i2l, 1), (9, .lconst 1, 1), (10, .ldc2_w 496, 3), (13, .invokestatic 91, 3), (16, .ifCond .eq 12, 3), (19, .aload_n 0, 1), (20, .iload_n 3, 1), (21, .i2l, 1), (22, .invokevirtual 109, 3), (25, .ifCond .ne 6, 3), (28, .bipush (-2), 2), (30, .ireturn, 1)], 6, [], [(496, 20)], [])
theorem tk_X12_luck : TOK RX12 vwCl gTbl cX12_luck tb_X12_luck := ⟨by decide +kernel, fun _ h => absurd h List.not_mem_nil, List.forall_mem_cons.mpr ⟨wd_2159, fun _ h => absurd h List.not_mem_nil⟩, fun _ h => absurd h List.not_mem_nil⟩
def tb_X11_isTold : TB := ([(0, .aload_n 0, 1), (1, .getfield 28, 3), (4, .getfield 45, 3), (7, .getfield 133, 3), (10, .ifCond .le 7, 3), (17, .iconst 0, 1), (18, .ireturn, 1)], 1, [], [], [(28, 11, 2, 9), (45, 9, 0, 9), (133, 4, 0, 0)])
theorem tk_X11_isTold : TOK RX11 vwCl gTbl cX11_isTold tb_X11_isTold := ⟨by decide +kernel, fun _ h => absurd h List.not_mem_nil, fun _ h => absurd h List.not_mem_nil, List.forall_mem_cons.mpr ⟨fk_RX11_28, List.forall_mem_cons.mpr ⟨fk_RX11_45, List.forall_mem_cons.mpr ⟨fk_RX11_133, fun _ h => absurd h List.not_mem_nil⟩⟩⟩⟩
def tb_X11_drawn : TB := ([(0, .aload_n 0, 1), (1, .invokevirtual 219, 3), (4, .ifCond .eq 17, 3), (21, .bipush (-2), 2), (23, .ireturn, 1)], 3, [], [], [])
theorem tk_X11_drawn : TOK RX11 vwCl gTbl cX11_drawn tb_X11_drawn := ⟨by decide +kernel, fun _ h => absurd h List.not_mem_nil, fun _ h => absurd h List.not_mem_nil, fun _ h => absurd h List.not_mem_nil⟩
def tb_X12_isHundred : TB := ([(0, .aload_n 0, 1), (1, .getfield 9, 3), (4, .bipush 8, 2), (6, .iaload, 1), (7, .ifCond .le 7, 3), (14, .iconst 0, 1), (15, .ireturn, 1)], 1, [], [], [(9, 12, 1, 9)])
theorem tk_X12_isHundred : TOK RX12 vwCl gTbl cX12_isHundred tb_X12_isHundred := ⟨by decide +kernel, fun _ h => absurd h List.not_mem_nil, fun _ h => absurd h List.not_mem_nil, List.forall_mem_cons.mpr ⟨fk_RX12_9, fun _ h => absurd h List.not_mem_nil⟩⟩
def tb_X12_drawn : TB := ([(0, .aload_n 0, 1), (1, .invokevirtual 99, 3), (4, .ifCond .eq 20, 3), (24, .bipush (-2), 2), (26, .ireturn, 1)], 3, [], [], [])
theorem tk_X12_drawn : TOK RX12 vwCl gTbl cX12_drawn tb_X12_drawn := ⟨by decide +kernel, fun _ h => absurd h List.not_mem_nil, fun _ h => absurd h List.not_mem_nil, fun _ h => absurd h List.not_mem_nil⟩
def tb_X11_anew : TB := ([(0, .aload_n 0, 1), (1, .invokevirtual 219, 3), (4, .ifCond .ne 6, 3), (7, .bipush (-2), 2), (9, .ireturn, 1)], 2, [], [], [])
theorem tk_X11_anew : TOK RX11 vwCl gTbl cX11_anew tb_X11_anew := ⟨by decide +kernel, fun _ h => absurd h List.not_mem_nil, fun _ h => absurd h List.not_mem_nil, fun _ h => absurd h List.not_mem_nil⟩
def tb_X12_anew : TB := ([(0, .aload_n 0, 1), (1, .invokevirtual 99, 3), (4, .ifCond .ne 6, 3), (7, .bipush (-2), 2), (9, .ireturn, 1)], 2, [], [], [])
theorem tk_X12_anew : TOK RX12 vwCl gTbl cX12_anew tb_X12_anew := ⟨by decide +kernel, fun _ h => absurd h List.not_mem_nil, fun _ h => absurd h List.not_mem_nil, fun _ h => absurd h List.not_mem_nil⟩
def tb_X11_undo : TB := ([(0, .aload_n 0, 1), (1, .invokevirtual 219, 3), (4, .ifCond .ne 6, 3), (7, .bipush (-2), 2), (9, .ireturn, 1)], 1, [], [], [])
theorem tk_X11_undo : TOK RX11 vwCl gTbl cX11_undo tb_X11_undo := ⟨by decide +kernel, fun _ h => absurd h List.not_mem_nil, fun _ h => absurd h List.not_mem_nil, fun _ h => absurd h List.not_mem_nil⟩
def tb_X12_undo : TB := ([(0, .aload_n 0, 1), (1, .invokevirtual 99, 3), (4, .ifCond .ne 6, 3), (7, .bipush (-2), 2), (9, .ireturn, 1)], 1, [], [], [])
theorem tk_X12_undo : TOK RX12 vwCl gTbl cX12_undo tb_X12_undo := ⟨by decide +kernel, fun _ h => absurd h List.not_mem_nil, fun _ h => absurd h List.not_mem_nil, fun _ h => absurd h List.not_mem_nil⟩
def tb_X11_speaks : TB := ([(0, .aload_n 0, 1), (1, .iload_n 1, 1), (2, .invokevirtual 139, 3), (5, .ifCond .eq 11, 3), (16, .bipush (-2), 2), (18, .ireturn, 1)], 3, [], [], [])
theorem tk_X11_speaks : TOK RX11 vwCl gTbl cX11_speaks tb_X11_speaks := ⟨by decide +kernel, fun _ h => absurd h List.not_mem_nil, fun _ h => absurd h List.not_mem_nil, fun _ h => absurd h List.not_mem_nil⟩
def tb_X12_speaks : TB := ([(0, .aload_n 0, 1), (1, .iload_n 1, 1), (2, .i2l, 1), (3, .invokevirtual 109, 3), (6, .ifCond .eq 12, 3), (18, .bipush (-2), 2), (20, .ireturn, 1)], 3, [], [], [])
theorem tk_X12_speaks : TOK RX12 vwCl gTbl cX12_speaks tb_X12_speaks := ⟨by decide +kernel, fun _ h => absurd h List.not_mem_nil, fun _ h => absurd h List.not_mem_nil, fun _ h => absurd h List.not_mem_nil⟩
def tb_X11_puts : TB := ([(0, .aload_n 0, 1), (1, .iload_n 1, 1), (2, .invokevirtual 139, 3), (5, .ifCond .eq 16, 3), (21, .bipush (-2), 2), (23, .ireturn, 1)], 4, [], [], [])
theorem tk_X11_puts : TOK RX11 vwCl gTbl cX11_puts tb_X11_puts := ⟨by decide +kernel, fun _ h => absurd h List.not_mem_nil, fun _ h => absurd h List.not_mem_nil, fun _ h => absurd h List.not_mem_nil⟩
def tb_X12_puts : TB := ([(0, .aload_n 0, 1), (1, .iload_n 1, 1), (2, .i2l, 1), (3, .invokevirtual 109, 3), (6, .ifCond .eq 16, 3), (22, .bipush (-2), 2), (24, .ireturn, 1)], 3, [], [], [])
theorem tk_X12_puts : TOK RX12 vwCl gTbl cX12_puts tb_X12_puts := ⟨by decide +kernel, fun _ h => absurd h List.not_mem_nil, fun _ h => absurd h List.not_mem_nil, fun _ h => absurd h List.not_mem_nil⟩
def tb_X11_isEatingDay : TB := ([(0, .iload_n 1, 1), (1, .ifCond .lt 21, 3), (4, .iload_n 1, 1), (5, .aload_n 0, 1), (6, .getfield 28, 3), (9, .getfield 45, 3), (12, .getfield 297, 3), (15, .if_icmp .ge 7, 3), (22, .iconst 0, 1), (23, .ireturn, 1)], 2, [], [], [(28, 11, 2, 9), (45, 9, 0, 9), (297, 4, 1, 0)])
theorem tk_X11_isEatingDay : TOK RX11 vwCl gTbl cX11_isEatingDay tb_X11_isEatingDay := ⟨by decide +kernel, fun _ h => absurd h List.not_mem_nil, fun _ h => absurd h List.not_mem_nil, List.forall_mem_cons.mpr ⟨fk_RX11_28, List.forall_mem_cons.mpr ⟨fk_RX11_45, List.forall_mem_cons.mpr ⟨fk_RX11_297, fun _ h => absurd h List.not_mem_nil⟩⟩⟩⟩
def tb_X11_isChanceDay : TB := ([(0, .aload_n 0, 1), (1, .iload_n 1, 1), (2, .invokevirtual 272, 3), (5, .ifCond .eq 13, 3), (18, .iconst 0, 1), (19, .ireturn, 1)], 2, [], [], [])
theorem tk_X11_isChanceDay : TOK RX11 vwCl gTbl cX11_isChanceDay tb_X11_isChanceDay := ⟨by decide +kernel, fun _ h => absurd h List.not_mem_nil, fun _ h => absurd h List.not_mem_nil, fun _ h => absurd h List.not_mem_nil⟩
def tb_X11_mean : TB := ([(0, .aload_n 0, 1), (1, .iload_n 1, 1), (2, .invokevirtual 364, 3), (5, .ifCond .eq 10, 3), (15, .ldc2_w 367, 3), (18, .lreturn, 1)], 7, [], [(367, (-2))], [])
theorem tk_X11_mean : TOK RX11 vwCl gTbl cX11_mean tb_X11_mean := ⟨by decide +kernel, fun _ h => absurd h List.not_mem_nil, List.forall_mem_cons.mpr ⟨wd_1279, fun _ h => absurd h List.not_mem_nil⟩, fun _ h => absurd h List.not_mem_nil⟩
def tb_X12_isAhead : TB := ([(0, .aload_n 0, 1), (1, .invokevirtual 99, 3), (4, .ifCond .eq 22, 3), (26, .iconst 0, 1), (27, .ireturn, 1)], 3, [], [], [])
theorem tk_X12_isAhead : TOK RX12 vwCl gTbl cX12_isAhead tb_X12_isAhead := ⟨by decide +kernel, fun _ h => absurd h List.not_mem_nil, fun _ h => absurd h List.not_mem_nil, fun _ h => absurd h List.not_mem_nil⟩
def tb_X12_isWinds : TB := ([(0, .aload_n 0, 1), (1, .iload_n 1, 1), (2, .i2l, 1), (3, .invokevirtual 372, 3), (6, .ifCond .eq 29, 3), (35, .iconst 0, 1), (36, .ireturn, 1)], 3, [], [], [])
theorem tk_X12_isWinds : TOK RX12 vwCl gTbl cX12_isWinds tb_X12_isWinds := ⟨by decide +kernel, fun _ h => absurd h List.not_mem_nil, fun _ h => absurd h List.not_mem_nil, fun _ h => absurd h List.not_mem_nil⟩
def tb_X12_mean : TB := ([(0, .aload_n 0, 1), (1, .iload_n 1, 1), (2, .iload_n 2, 1), (3, .invokevirtual 465, 3), (6, .ifCond .ne 7, 3), (9, .ldc2_w 468, 3), (12, .lreturn, 1)], 3, [], [(468, (-2))], [])
theorem tk_X12_mean : TOK RX12 vwCl gTbl cX12_mean tb_X12_mean := ⟨by decide +kernel, fun _ h => absurd h List.not_mem_nil, List.forall_mem_cons.mpr ⟨wd_2109, fun _ h => absurd h List.not_mem_nil⟩, fun _ h => absurd h List.not_mem_nil⟩
def tb_X11_chance : TB := ([(0, .aload_n 0, 1), (1, .iload_n 1, 1), (2, .invokevirtual 139, 3), (5, .ifCond .eq 30, 3), (35, .ldc2_w 367, 3), (38, .lreturn, 1)], 9, [], [(367, (-2))], [])
theorem tk_X11_chance : TOK RX11 vwCl gTbl cX11_chance tb_X11_chance := ⟨by decide +kernel, fun _ h => absurd h List.not_mem_nil, List.forall_mem_cons.mpr ⟨wd_1279, fun _ h => absurd h List.not_mem_nil⟩, fun _ h => absurd h List.not_mem_nil⟩
def tb_X12_chance : TB := ([(0, .aload_n 0, 1), (1, .iload_n 1, 1), (2, .i2l, 1), (3, .invokevirtual 109, 3), (6, .ifCond .eq 25, 3), (31, .ldc2_w 468, 3), (34, .lreturn, 1)], 5, [], [(468, (-2))], [])
theorem tk_X12_chance : TOK RX12 vwCl gTbl cX12_chance tb_X12_chance := ⟨by decide +kernel, fun _ h => absurd h List.not_mem_nil, List.forall_mem_cons.mpr ⟨wd_2109, fun _ h => absurd h List.not_mem_nil⟩, fun _ h => absurd h List.not_mem_nil⟩
def tb_X11_gets : TB := ([(0, .aload_n 0, 1), (1, .iload_n 1, 1), (2, .invokevirtual 139, 3), (5, .ifCond .eq 31, 3), (36, .sipush (-1000), 3), (39, .ireturn, 1)], 5, [], [], [])
theorem tk_X11_gets : TOK RX11 vwCl gTbl cX11_gets tb_X11_gets := ⟨by decide +kernel, fun _ h => absurd h List.not_mem_nil, fun _ h => absurd h List.not_mem_nil, fun _ h => absurd h List.not_mem_nil⟩
def tb_X12_areFields : TB := ([(0, .aload_n 0, 1), (1, .iload_n 1, 1), (2, .i2l, 1), (3, .invokevirtual 109, 3), (6, .ifCond .eq 21, 3), (27, .iconst 0, 1), (28, .ireturn, 1)], 3, [], [], [])
theorem tk_X12_areFields : TOK RX12 vwCl gTbl cX12_areFields tb_X12_areFields := ⟨by decide +kernel, fun _ h => absurd h List.not_mem_nil, fun _ h => absurd h List.not_mem_nil, fun _ h => absurd h List.not_mem_nil⟩
def tb_X12_gets : TB := ([(0, .aload_n 0, 1), (1, .iload_n 1, 1), (2, .iload_n 2, 1), (3, .invokevirtual 444, 3), (6, .ifCond .eq 37, 3), (43, .sipush (-1000), 3), (46, .ireturn, 1)], 5, [], [], [])
theorem tk_X12_gets : TOK RX12 vwCl gTbl cX12_gets tb_X12_gets := ⟨by decide +kernel, fun _ h => absurd h List.not_mem_nil, fun _ h => absurd h List.not_mem_nil, fun _ h => absurd h List.not_mem_nil⟩
def tb_X11_rests : TB := ([(0, .aload_n 0, 1), (1, .iload_n 1, 1), (2, .invokevirtual 139, 3), (5, .ifCond .eq 16, 3), (21, .bipush (-2), 2), (23, .ireturn, 1)], 8, [], [], [])
theorem tk_X11_rests : TOK RX11 vwCl gTbl cX11_rests tb_X11_rests := ⟨by decide +kernel, fun _ h => absurd h List.not_mem_nil, fun _ h => absurd h List.not_mem_nil, fun _ h => absurd h List.not_mem_nil⟩
def tb_X12_rests : TB := ([(0, .aload_n 0, 1), (1, .iload_n 1, 1), (2, .iload_n 2, 1), (3, .invokevirtual 444, 3), (6, .ifCond .ne 6, 3), (9, .bipush (-2), 2), (11, .ireturn, 1)], 8, [], [], [])
theorem tk_X12_rests : TOK RX12 vwCl gTbl cX12_rests tb_X12_rests := ⟨by decide +kernel, fun _ h => absurd h List.not_mem_nil, fun _ h => absurd h List.not_mem_nil, fun _ h => absurd h List.not_mem_nil⟩
def tb_X11_wrongSeen : TB := ([(0, .iload_n 1, 1), (1, .invokestatic 414, 3), (4, .ifCond .eq 11, 3), (7, .aload_n 0, 1), (8, .iload_n 2, 1), (9, .invokevirtual 139, 3), (12, .ifCond .ne 6, 3), (15, .bipush (-2), 2), (17, .ireturn, 1)], 5, [], [], [])
theorem tk_X11_wrongSeen : TOK RX11 vwCl gTbl cX11_wrongSeen tb_X11_wrongSeen := ⟨by decide +kernel, fun _ h => absurd h List.not_mem_nil, fun _ h => absurd h List.not_mem_nil, fun _ h => absurd h List.not_mem_nil⟩
def tb_X11_leaves : TB := ([(0, .aload_n 0, 1), (1, .iload_n 1, 1), (2, .iload_n 2, 1), (3, .invokevirtual 341, 3), (6, .istore_n 3, 1), (7, .iload_n 3, 1), (8, .ifCond .eq 5, 3), (11, .iload_n 3, 1), (12, .ireturn, 1)], 4, [], [], [])
theorem tk_X11_leaves : TOK RX11 vwCl gTbl cX11_leaves tb_X11_leaves := ⟨by decide +kernel, fun _ h => absurd h List.not_mem_nil, fun _ h => absurd h List.not_mem_nil, fun _ h => absurd h List.not_mem_nil⟩
def tb_X12_askSeen : TB := ([(0, .iload_n 1, 1), (1, .invokestatic 414, 3), (4, .ifCond .eq 12, 3), (7, .aload_n 0, 1), (8, .iload_n 2, 1), (9, .i2l, 1), (10, .invokevirtual 109, 3), (13, .ifCond .ne 6, 3), (16, .bipush (-2), 2), (18, .ireturn, 1)], 4, [], [], [])
theorem tk_X12_askSeen : TOK RX12 vwCl gTbl cX12_askSeen tb_X12_askSeen := ⟨by decide +kernel, fun _ h => absurd h List.not_mem_nil, fun _ h => absurd h List.not_mem_nil, fun _ h => absurd h List.not_mem_nil⟩
def tb_X12_layMay : TB := ([(0, .aload_n 0, 1), (1, .iload_n 1, 1), (2, .iload_n 2, 1), (3, .invokevirtual 423, 3), (6, .istore_n 3, 1), (7, .iload_n 3, 1), (8, .ifCond .ge 5, 3), (11, .iload_n 3, 1), (12, .ireturn, 1)], 6, [], [], [])
theorem tk_X12_layMay : TOK RX12 vwCl gTbl cX12_layMay tb_X12_layMay := ⟨by decide +kernel, fun _ h => absurd h List.not_mem_nil, fun _ h => absurd h List.not_mem_nil, fun _ h => absurd h List.not_mem_nil⟩
def tb_X12_leaves : TB := ([(0, .aload_n 0, 1), (1, .iload_n 1, 1), (2, .iload_n 2, 1), (3, .invokevirtual 432, 3), (6, .istore_n 3, 1), (7, .iload_n 3, 1), (8, .ifCond .ge 5, 3), (11, .iload_n 3, 1), (12, .ireturn, 1)], 4, [], [], [])
theorem tk_X12_leaves : TOK RX12 vwCl gTbl cX12_leaves tb_X12_leaves := ⟨by decide +kernel, fun _ h => absurd h List.not_mem_nil, fun _ h => absurd h List.not_mem_nil, fun _ h => absurd h List.not_mem_nil⟩
def tb_X11_ask : TB := ([(0, .aload_n 0, 1), (1, .iload_n 1, 1), (2, .iload_n 2, 1), (3, .invokevirtual 341, 3), (6, .istore_n 3, 1), (7, .iload_n 3, 1), (8, .ifCond .eq 5, 3), (11, .iload_n 3, 1), (12, .ireturn, 1)], 4, [], [], [])
theorem tk_X11_ask : TOK RX11 vwCl gTbl cX11_ask tb_X11_ask := ⟨by decide +kernel, fun _ h => absurd h List.not_mem_nil, fun _ h => absurd h List.not_mem_nil, fun _ h => absurd h List.not_mem_nil⟩
def tb_X12_ask : TB := ([(0, .aload_n 0, 1), (1, .iload_n 1, 1), (2, .iload_n 2, 1), (3, .invokevirtual 432, 3), (6, .istore_n 3, 1), (7, .iload_n 3, 1), (8, .ifCond .ge 7, 3), (11, .iload_n 3, 1), (12, .goto 7, 3), (19, .ireturn, 1)], 4, [], [], [])
theorem tk_X12_ask : TOK RX12 vwCl gTbl cX12_ask tb_X12_ask := ⟨by decide +kernel, fun _ h => absurd h List.not_mem_nil, fun _ h => absurd h List.not_mem_nil, fun _ h => absurd h List.not_mem_nil⟩
def tb_X11_may : TB := ([(0, .aload_n 0, 1), (1, .iload_n 1, 1), (2, .iload_n 2, 1), (3, .invokevirtual 341, 3), (6, .istore_n 3, 1), (7, .iload_n 3, 1), (8, .ifCond .eq 5, 3), (11, .iload_n 3, 1), (12, .ireturn, 1)], 4, [], [], [])
theorem tk_X11_may : TOK RX11 vwCl gTbl cX11_may tb_X11_may := ⟨by decide +kernel, fun _ h => absurd h List.not_mem_nil, fun _ h => absurd h List.not_mem_nil, fun _ h => absurd h List.not_mem_nil⟩
def tb_X12_may : TB := ([(0, .aload_n 0, 1), (1, .iload_n 1, 1), (2, .iload_n 2, 1), (3, .invokevirtual 432, 3), (6, .istore_n 3, 1), (7, .iload_n 3, 1), (8, .ifCond .ge 7, 3), (11, .iload_n 3, 1), (12, .goto 7, 3), (19, .ireturn, 1)], 4, [], [], [])
theorem tk_X12_may : TOK RX12 vwCl gTbl cX12_may tb_X12_may := ⟨by decide +kernel, fun _ h => absurd h List.not_mem_nil, fun _ h => absurd h List.not_mem_nil, fun _ h => absurd h List.not_mem_nil⟩
def tb_X11_gap : TB := ([(0, .aload_n 0, 1), (1, .invokevirtual 219, 3), (4, .ifCond .ne 6, 3), (7, .bipush (-2), 2), (9, .ireturn, 1)], 6, [], [], [])
theorem tk_X11_gap : TOK RX11 vwCl gTbl cX11_gap tb_X11_gap := ⟨by decide +kernel, fun _ h => absurd h List.not_mem_nil, fun _ h => absurd h List.not_mem_nil, fun _ h => absurd h List.not_mem_nil⟩
theorem fk_RX12_246 : FOK RX12 vwCl gTbl (246, 12, 17, 0) := ⟨RX12, TX12, 45, tyX12, rfl, by decide, in_X12, wd_1417, tyX12_ok, nmX12, fun _ => ⟨rfl, rfl⟩⟩
theorem fk_RX12_37 : FOK RX12 vwCl gTbl (37, 12, 16, 9) := ⟨RX12, TX12, 45, tyX12, rfl, by decide, in_X12, wd_1416, tyX12_ok, nmX12, fun h => absurd h (by decide)⟩
theorem fk_RX12_34 : FOK RX12 vwCl gTbl (34, 12, 15, 9) := ⟨RX12, TX12, 45, tyX12, rfl, by decide, in_X12, wd_1415, tyX12_ok, nmX12, fun h => absurd h (by decide)⟩
def tb_X12_rowsAsTold : TB := ([(0, .aload_n 0, 1), (1, .iconst 0, 1), (2, .putfield 246, 3), (5, .iconst 0, 1), (6, .istore_n 1, 1), (7, .iload_n 1, 1), (8, .bipush 7, 2), (10, .if_icmp .ge 68, 3), (13, .aload_n 0, 1), (14, .getfield 37, 3), (17, .iload_n 1, 1), (18, .aload_n 0, 1), (19, .getfield 9, 3), (22, .bipush 45, 2), (24, .bipush 7, 2), (26, .iload_n 1, 1), (27, .imul, 1), (28, .iadd, 1), (29, .iconst 1, 1), (30, .iadd, 1), (31, .iaload, 1), (32, .iastore, 1), (33, .iconst 0, 1), (34, .istore_n 2, 1), (35, .iload_n 2, 1), (36, .iconst 5, 1), (37, .if_icmp .ge 35, 3), (40, .aload_n 0, 1), (41, .getfield 34, 3), (44, .iconst 5, 1), (45, .iload_n 1, 1), (46, .imul, 1), (47, .iload_n 2, 1), (48, .iadd, 1), (49, .aload_n 0, 1), (50, .getfield 9, 3), (53, .bipush 45, 2), (55, .bipush 7, 2), (57, .iload_n 1, 1), (58, .imul, 1), (59, .iadd, 1), (60, .iconst 2, 1), (61, .iadd, 1), (62, .iload_n 2, 1), (63, .iadd, 1), (64, .iaload, 1), (65, .iastore, 1), (66, .iinc 2 1, 3), (69, .goto (-34), 3), (72, .iinc 1 1, 3), (75, .goto (-68), 3), (78, .return_, 1)], 3, [], [], [(246, 12, 17, 0), (37, 12, 16, 9), (9, 12, 1, 9), (34, 12, 15, 9)])
theorem tk_X12_rowsAsTold : TOK RX12 vwCl gTbl cX12_rowsAsTold tb_X12_rowsAsTold := ⟨by decide +kernel, fun _ h => absurd h List.not_mem_nil, fun _ h => absurd h List.not_mem_nil, List.forall_mem_cons.mpr ⟨fk_RX12_246, List.forall_mem_cons.mpr ⟨fk_RX12_37, List.forall_mem_cons.mpr ⟨fk_RX12_9, List.forall_mem_cons.mpr ⟨fk_RX12_34, fun _ h => absurd h List.not_mem_nil⟩⟩⟩⟩⟩
def tb_X12_allMen : TB := ([(0, .iconst 1, 1), (1, .aload_n 0, 1), (2, .invokevirtual 95, 3), (5, .ishl, 1), (6, .iconst 1, 1), (7, .isub, 1), (8, .ireturn, 1)], 1, [], [], [])
theorem tk_X12_allMen : TOK RX12 vwCl gTbl cX12_allMen tb_X12_allMen := ⟨by decide +kernel, fun _ h => absurd h List.not_mem_nil, fun _ h => absurd h List.not_mem_nil, fun _ h => absurd h List.not_mem_nil⟩
def tb_X12_electAll : TB := ([(0, .aload_n 0, 1), (1, .invokevirtual 269, 3), (4, .istore_n 2, 1), (5, .iconst 0, 1), (6, .istore_n 3, 1), (7, .iload_n 3, 1), (8, .aload_n 0, 1), (9, .invokevirtual 106, 3), (12, .if_icmp .ge 44, 3), (56, .return_, 1)], 4, [], [], [])
theorem tk_X12_electAll : TOK RX12 vwCl gTbl cX12_electAll tb_X12_electAll := ⟨by decide +kernel, fun _ h => absurd h List.not_mem_nil, fun _ h => absurd h List.not_mem_nil, fun _ h => absurd h List.not_mem_nil⟩
theorem fk_RX12_46 : FOK RX12 vwCl gTbl (46, 12, 20, 9) := ⟨RX12, TX12, 45, tyX12, rfl, by decide, in_X12, wd_1420, tyX12_ok, nmX12, fun h => absurd h (by decide)⟩
theorem fk_RX12_323 : FOK RX12 vwCl gTbl (323, 12, 21, 0) := ⟨RX12, TX12, 45, tyX12, rfl, by decide, in_X12, wd_1421, tyX12_ok, nmX12, fun _ => ⟨rfl, rfl⟩⟩
theorem fk_RX12_326 : FOK RX12 vwCl gTbl (326, 12, 22, 0) := ⟨RX12, TX12, 45, tyX12, rfl, by decide, in_X12, wd_1422, tyX12_ok, nmX12, fun _ => ⟨rfl, rfl⟩⟩
theorem fk_RX12_329 : FOK RX12 vwCl gTbl (329, 12, 23, 0) := ⟨RX12, TX12, 45, tyX12, rfl, by decide, in_X12, wd_1423, tyX12_ok, nmX12, fun _ => ⟨rfl, rfl⟩⟩
theorem fk_RX12_332 : FOK RX12 vwCl gTbl (332, 12, 24, 0) := ⟨RX12, TX12, 45, tyX12, rfl, by decide, in_X12, wd_1424, tyX12_ok, nmX12, fun _ => ⟨rfl, rfl⟩⟩
def tb_X12_speeches : TB := ([(0, .iconst 0, 1), (1, .istore_n 1, 1), (2, .iload_n 1, 1), (3, .iconst 5, 1), (4, .if_icmp .ge 16, 3), (7, .aload_n 0, 1), (8, .getfield 46, 3), (11, .iload_n 1, 1), (12, .iconst 0, 1), (13, .iastore, 1), (14, .iinc 1 1, 3), (17, .goto (-15), 3), (20, .aload_n 0, 1), (21, .iconst 0, 1), (22, .putfield 323, 3), (25, .aload_n 0, 1), (26, .iconst 0, 1), (27, .putfield 326, 3), (30, .aload_n 0, 1), (31, .iconst (-1), 1), (32, .putfield 329, 3), (35, .aload_n 0, 1), (36, .iconst (-1), 1), (37, .putfield 332, 3), (40, .iconst 0, 1), (41, .istore_n 1, 1), (42, .iload_n 1, 1), (43, .aload_n 0, 1), (44, .getfield 9, 3), (47, .bipush 7, 2), (49, .iaload, 1), (50, .if_icmp .ge 48, 3), (98, .return_, 1)], 3, [], [], [(46, 12, 20, 9), (323, 12, 21, 0), (326, 12, 22, 0), (329, 12, 23, 0), (332, 12, 24, 0), (9, 12, 1, 9)])
theorem tk_X12_speeches : TOK RX12 vwCl gTbl cX12_speeches tb_X12_speeches := ⟨by decide +kernel, fun _ h => absurd h List.not_mem_nil, fun _ h => absurd h List.not_mem_nil, List.forall_mem_cons.mpr ⟨fk_RX12_46, List.forall_mem_cons.mpr ⟨fk_RX12_323, List.forall_mem_cons.mpr ⟨fk_RX12_326, List.forall_mem_cons.mpr ⟨fk_RX12_329, List.forall_mem_cons.mpr ⟨fk_RX12_332, List.forall_mem_cons.mpr ⟨fk_RX12_9, fun _ h => absurd h List.not_mem_nil⟩⟩⟩⟩⟩⟩⟩
theorem fk_RX12_43 : FOK RX12 vwCl gTbl (43, 12, 19, 9) := ⟨RX12, TX12, 45, tyX12, rfl, by decide, in_X12, wd_1419, tyX12_ok, nmX12, fun h => absurd h (by decide)⟩
def tb_X12_asElected : TB := ([(0, .aload_n 0, 1), (1, .invokevirtual 249, 3), (4, .aload_n 0, 1), (5, .iload_n 1, 1), (6, .invokevirtual 280, 3), (9, .iconst 0, 1), (10, .istore_n 2, 1), (11, .iload_n 2, 1), (12, .iconst 5, 1), (13, .if_icmp .ge 33, 3), (16, .aload_n 0, 1), (17, .getfield 43, 3), (20, .iload_n 2, 1), (21, .iload_n 2, 1), (22, .aload_n 0, 1), (23, .invokevirtual 106, 3), (26, .if_icmp .ge 12, 3), (38, .iconst (-1), 1), (39, .iastore, 1), (40, .iinc 2 1, 3), (43, .goto (-32), 3), (46, .aload_n 0, 1), (47, .invokevirtual 335, 3), (50, .return_, 1)], 3, [], [], [(43, 12, 19, 9)])
theorem tk_X12_asElected : TOK RX12 vwCl gTbl cX12_asElected tb_X12_asElected := ⟨by decide +kernel, fun _ h => absurd h List.not_mem_nil, fun _ h => absurd h List.not_mem_nil, List.forall_mem_cons.mpr ⟨fk_RX12_43, fun _ h => absurd h List.not_mem_nil⟩⟩
def tb_X12_asItIs : TB := ([(0, .aload_n 0, 1), (1, .aload_n 0, 1), (2, .getfield 9, 3), (5, .iconst 1, 1), (6, .iaload, 1), (7, .invokevirtual 338, 3), (10, .iconst 0, 1), (11, .istore_n 1, 1), (12, .iload_n 1, 1), (13, .aload_n 0, 1), (14, .getfield 9, 3), (17, .bipush 7, 2), (19, .iaload, 1), (20, .if_icmp .ge 40, 3), (60, .return_, 1)], 3, [], [], [(9, 12, 1, 9)])
theorem tk_X12_asItIs : TOK RX12 vwCl gTbl cX12_asItIs tb_X12_asItIs := ⟨by decide +kernel, fun _ h => absurd h List.not_mem_nil, fun _ h => absurd h List.not_mem_nil, List.forall_mem_cons.mpr ⟨fk_RX12_9, fun _ h => absurd h List.not_mem_nil⟩⟩
def tb_X12_days : TB := ([(0, .aload_n 0, 1), (1, .getfield 9, 3), (4, .iconst 0, 1), (5, .iaload, 1), (6, .ireturn, 1)], 1, [], [], [(9, 12, 1, 9)])
theorem tk_X12_days : TOK RX12 vwCl gTbl cX12_days tb_X12_days := ⟨by decide +kernel, fun _ h => absurd h List.not_mem_nil, fun _ h => absurd h List.not_mem_nil, List.forall_mem_cons.mpr ⟨fk_RX12_9, fun _ h => absurd h List.not_mem_nil⟩⟩
def tb_X12_goAll : TB := ([(0, .iconst 0, 1), (1, .istore_n 1, 1), (2, .iload_n 1, 1), (3, .aload_n 0, 1), (4, .invokevirtual 106, 3), (7, .if_icmp .ge 45, 3), (52, .iconst 0, 1), (53, .istore_n 1, 1), (54, .iload_n 1, 1), (55, .aload_n 0, 1), (56, .invokevirtual 103, 3), (59, .if_icmp .gt 41, 3), (62, .iconst 0, 1), (63, .istore_n 2, 1), (64, .iload_n 2, 1), (65, .aload_n 0, 1), (66, .invokevirtual 106, 3), (69, .if_icmp .ge 25, 3), (94, .iinc 1 1, 3), (97, .goto (-43), 3), (100, .iconst 0, 1), (101, .istore_n 1, 1), (102, .iload_n 1, 1), (103, .aload_n 0, 1), (104, .invokevirtual 103, 3), (107, .if_icmp .ge 14, 3), (121, .return_, 1)], 3, [], [], [])
theorem tk_X12_goAll : TOK RX12 vwCl gTbl cX12_goAll tb_X12_goAll := ⟨by decide +kernel, fun _ h => absurd h List.not_mem_nil, fun _ h => absurd h List.not_mem_nil, fun _ h => absurd h List.not_mem_nil⟩
def tb_X12_asksHundred : TB := ([(0, .aload_n 0, 1), (1, .invokevirtual 345, 3), (4, .aload_n 0, 1), (5, .invokevirtual 363, 3), (8, .aload_n 0, 1), (9, .invokevirtual 99, 3), (12, .ireturn, 1)], 1, [], [], [])
theorem tk_X12_asksHundred : TOK RX12 vwCl gTbl cX12_asksHundred tb_X12_asksHundred := ⟨by decide +kernel, fun _ h => absurd h List.not_mem_nil, fun _ h => absurd h List.not_mem_nil, fun _ h => absurd h List.not_mem_nil⟩
def tb_X12_gap : TB := ([(0, .aload_n 0, 1), (1, .invokevirtual 366, 3), (4, .ifCond .ne 6, 3), (7, .bipush (-2), 2), (9, .ireturn, 1)], 5, [], [], [])
theorem tk_X12_gap : TOK RX12 vwCl gTbl cX12_gap tb_X12_gap := ⟨by decide +kernel, fun _ h => absurd h List.not_mem_nil, fun _ h => absurd h List.not_mem_nil, fun _ h => absurd h List.not_mem_nil⟩
def tb_X11_speech : TB := ([(0, .aload_n 0, 1), (1, .invokevirtual 219, 3), (4, .ifCond .ne 6, 3), (7, .bipush (-2), 2), (9, .ireturn, 1)], 6, [], [], [])
theorem tk_X11_speech : TOK RX11 vwCl gTbl cX11_speech tb_X11_speech := ⟨by decide +kernel, fun _ h => absurd h List.not_mem_nil, fun _ h => absurd h List.not_mem_nil, fun _ h => absurd h List.not_mem_nil⟩
def tb_X12_speech : TB := ([(0, .aload_n 0, 1), (1, .invokevirtual 366, 3), (4, .ifCond .ne 6, 3), (7, .bipush (-2), 2), (9, .ireturn, 1)], 6, [], [], [])
theorem tk_X12_speech : TOK RX12 vwCl gTbl cX12_speech tb_X12_speech := ⟨by decide +kernel, fun _ h => absurd h List.not_mem_nil, fun _ h => absurd h List.not_mem_nil, fun _ h => absurd h List.not_mem_nil⟩
def tb_X11_law : TB := ([(0, .aload_n 0, 1), (1, .invokevirtual 219, 3), (4, .ifCond .ne 6, 3), (7, .bipush (-2), 2), (9, .ireturn, 1)], 5, [], [], [])
theorem tk_X11_law : TOK RX11 vwCl gTbl cX11_law tb_X11_law := ⟨by decide +kernel, fun _ h => absurd h List.not_mem_nil, fun _ h => absurd h List.not_mem_nil, fun _ h => absurd h List.not_mem_nil⟩
def tb_X12_law : TB := ([(0, .aload_n 0, 1), (1, .invokevirtual 99, 3), (4, .ifCond .ne 6, 3), (7, .bipush (-2), 2), (9, .ireturn, 1)], 3, [], [], [])
theorem tk_X12_law : TOK RX12 vwCl gTbl cX12_law tb_X12_law := ⟨by decide +kernel, fun _ h => absurd h List.not_mem_nil, fun _ h => absurd h List.not_mem_nil, fun _ h => absurd h List.not_mem_nil⟩
def tb_X11_by : TB := ([(0, .aload_n 0, 1), (1, .invokevirtual 219, 3), (4, .ifCond .eq 18, 3), (22, .bipush (-2), 2), (24, .ireturn, 1)], 2, [], [], [])
theorem tk_X11_by : TOK RX11 vwCl gTbl cX11_by tb_X11_by := ⟨by decide +kernel, fun _ h => absurd h List.not_mem_nil, fun _ h => absurd h List.not_mem_nil, fun _ h => absurd h List.not_mem_nil⟩
def tb_X12_by : TB := ([(0, .aload_n 0, 1), (1, .invokevirtual 99, 3), (4, .ifCond .eq 23, 3), (27, .bipush (-2), 2), (29, .ireturn, 1)], 2, [], [], [])
theorem tk_X12_by : TOK RX12 vwCl gTbl cX12_by tb_X12_by := ⟨by decide +kernel, fun _ h => absurd h List.not_mem_nil, fun _ h => absurd h List.not_mem_nil, fun _ h => absurd h List.not_mem_nil⟩
def tb_X11_fewest : TB := ([(0, .aload_n 0, 1), (1, .invokevirtual 219, 3), (4, .ifCond .ne 6, 3), (7, .bipush (-2), 2), (9, .ireturn, 1)], 1, [], [], [])
theorem tk_X11_fewest : TOK RX11 vwCl gTbl cX11_fewest tb_X11_fewest := ⟨by decide +kernel, fun _ h => absurd h List.not_mem_nil, fun _ h => absurd h List.not_mem_nil, fun _ h => absurd h List.not_mem_nil⟩
def tb_X12_asksRows : TB := ([(0, .aload_n 0, 1), (1, .invokevirtual 99, 3), (4, .ifCond .ne 5, 3), (7, .iconst 0, 1), (8, .ireturn, 1)], 2, [], [], [])
theorem tk_X12_asksRows : TOK RX12 vwCl gTbl cX12_asksRows tb_X12_asksRows := ⟨by decide +kernel, fun _ h => absurd h List.not_mem_nil, fun _ h => absurd h List.not_mem_nil, fun _ h => absurd h List.not_mem_nil⟩
def tb_X12_fewest : TB := ([(0, .aload_n 0, 1), (1, .invokevirtual 408, 3), (4, .ifCond .eq 10, 3), (14, .bipush (-2), 2), (16, .ireturn, 1)], 1, [], [], [])
theorem tk_X12_fewest : TOK RX12 vwCl gTbl cX12_fewest tb_X12_fewest := ⟨by decide +kernel, fun _ h => absurd h List.not_mem_nil, fun _ h => absurd h List.not_mem_nil, fun _ h => absurd h List.not_mem_nil⟩
def tb_X11_ways : TB := ([(0, .aload_n 0, 1), (1, .invokevirtual 219, 3), (4, .ifCond .ne 6, 3), (7, .bipush (-2), 2), (9, .ireturn, 1)], 1, [], [], [])
theorem tk_X11_ways : TOK RX11 vwCl gTbl cX11_ways tb_X11_ways := ⟨by decide +kernel, fun _ h => absurd h List.not_mem_nil, fun _ h => absurd h List.not_mem_nil, fun _ h => absurd h List.not_mem_nil⟩
def tb_X12_ways : TB := ([(0, .aload_n 0, 1), (1, .invokevirtual 408, 3), (4, .ifCond .eq 10, 3), (14, .bipush (-2), 2), (16, .ireturn, 1)], 1, [], [], [])
theorem tk_X12_ways : TOK RX12 vwCl gTbl cX12_ways tb_X12_ways := ⟨by decide +kernel, fun _ h => absurd h List.not_mem_nil, fun _ h => absurd h List.not_mem_nil, fun _ h => absurd h List.not_mem_nil⟩
def tb_X11_put : TB := ([(0, .aload_n 0, 1), (1, .iload_n 1, 1), (2, .invokevirtual 139, 3), (5, .ifCond .ne 6, 3), (8, .bipush (-2), 2), (10, .ireturn, 1)], 2, [], [], [])
theorem tk_X11_put : TOK RX11 vwCl gTbl cX11_put tb_X11_put := ⟨by decide +kernel, fun _ h => absurd h List.not_mem_nil, fun _ h => absurd h List.not_mem_nil, fun _ h => absurd h List.not_mem_nil⟩
def tb_X12_put : TB := ([(0, .aload_n 0, 1), (1, .iload_n 1, 1), (2, .i2l, 1), (3, .invokevirtual 109, 3), (6, .ifCond .eq 19, 3), (25, .bipush (-2), 2), (27, .ireturn, 1)], 2, [], [], [])
theorem tk_X12_put : TOK RX12 vwCl gTbl cX12_put tb_X12_put := ⟨by decide +kernel, fun _ h => absurd h List.not_mem_nil, fun _ h => absurd h List.not_mem_nil, fun _ h => absurd h List.not_mem_nil⟩
def tb_X11_best : TB := ([(0, .aload_n 0, 1), (1, .invokevirtual 219, 3), (4, .ifCond .ne 6, 3), (7, .bipush (-2), 2), (9, .ireturn, 1)], 1, [], [], [])
theorem tk_X11_best : TOK RX11 vwCl gTbl cX11_best tb_X11_best := ⟨by decide +kernel, fun _ h => absurd h List.not_mem_nil, fun _ h => absurd h List.not_mem_nil, fun _ h => absurd h List.not_mem_nil⟩
def tb_X12_best : TB := ([(0, .aload_n 0, 1), (1, .invokevirtual 408, 3), (4, .ifCond .eq 10, 3), (14, .bipush (-2), 2), (16, .ireturn, 1)], 1, [], [], [])
theorem tk_X12_best : TOK RX12 vwCl gTbl cX12_best tb_X12_best := ⟨by decide +kernel, fun _ h => absurd h List.not_mem_nil, fun _ h => absurd h List.not_mem_nil, fun _ h => absurd h List.not_mem_nil⟩
def tb_X11_isDay : TB := ([(0, .aload_n 0, 1), (1, .invokevirtual 219, 3), (4, .ifCond .eq 25, 3), (29, .iconst 0, 1), (30, .ireturn, 1)], 2, [], [], [])
theorem tk_X11_isDay : TOK RX11 vwCl gTbl cX11_isDay tb_X11_isDay := ⟨by decide +kernel, fun _ h => absurd h List.not_mem_nil, fun _ h => absurd h List.not_mem_nil, fun _ h => absurd h List.not_mem_nil⟩
def tb_X11_richest : TB := ([(0, .aload_n 0, 1), (1, .iload_n 1, 1), (2, .invokevirtual 260, 3), (5, .ifCond .eq 18, 3), (23, .bipush (-2), 2), (25, .ireturn, 1)], 2, [], [], [])
theorem tk_X11_richest : TOK RX11 vwCl gTbl cX11_richest tb_X11_richest := ⟨by decide +kernel, fun _ h => absurd h List.not_mem_nil, fun _ h => absurd h List.not_mem_nil, fun _ h => absurd h List.not_mem_nil⟩
def tb_X12_isDay : TB := ([(0, .aload_n 0, 1), (1, .invokevirtual 99, 3), (4, .ifCond .eq 20, 3), (24, .iconst 0, 1), (25, .ireturn, 1)], 3, [], [], [])
theorem tk_X12_isDay : TOK RX12 vwCl gTbl cX12_isDay tb_X12_isDay := ⟨by decide +kernel, fun _ h => absurd h List.not_mem_nil, fun _ h => absurd h List.not_mem_nil, fun _ h => absurd h List.not_mem_nil⟩
def tb_X12_asksDay : TB := ([(0, .aload_n 0, 1), (1, .invokevirtual 366, 3), (4, .pop, 1), (5, .aload_n 0, 1), (6, .iload_n 1, 1), (7, .i2l, 1), (8, .invokevirtual 369, 3), (11, .ireturn, 1)], 2, [], [], [])
theorem tk_X12_asksDay : TOK RX12 vwCl gTbl cX12_asksDay tb_X12_asksDay := ⟨by decide +kernel, fun _ h => absurd h List.not_mem_nil, fun _ h => absurd h List.not_mem_nil, fun _ h => absurd h List.not_mem_nil⟩
def tb_X12_richest : TB := ([(0, .aload_n 0, 1), (1, .iload_n 1, 1), (2, .invokevirtual 378, 3), (5, .ifCond .ne 6, 3), (8, .bipush (-2), 2), (10, .ireturn, 1)], 4, [], [], [])
theorem tk_X12_richest : TOK RX12 vwCl gTbl cX12_richest tb_X12_richest := ⟨by decide +kernel, fun _ h => absurd h List.not_mem_nil, fun _ h => absurd h List.not_mem_nil, fun _ h => absurd h List.not_mem_nil⟩
def tb_X11_flown : TB := ([(0, .aload_n 0, 1), (1, .iload_n 1, 1), (2, .invokevirtual 272, 3), (5, .ifCond .eq 18, 3), (23, .bipush (-2), 2), (25, .ireturn, 1)], 2, [], [], [])
theorem tk_X11_flown : TOK RX11 vwCl gTbl cX11_flown tb_X11_flown := ⟨by decide +kernel, fun _ h => absurd h List.not_mem_nil, fun _ h => absurd h List.not_mem_nil, fun _ h => absurd h List.not_mem_nil⟩
def tb_X12_asksAhead : TB := ([(0, .aload_n 0, 1), (1, .invokevirtual 366, 3), (4, .pop, 1), (5, .aload_n 0, 1), (6, .iload_n 1, 1), (7, .i2l, 1), (8, .invokevirtual 372, 3), (11, .ireturn, 1)], 2, [], [], [])
theorem tk_X12_asksAhead : TOK RX12 vwCl gTbl cX12_asksAhead tb_X12_asksAhead := ⟨by decide +kernel, fun _ h => absurd h List.not_mem_nil, fun _ h => absurd h List.not_mem_nil, fun _ h => absurd h List.not_mem_nil⟩
def tb_X12_flown : TB := ([(0, .aload_n 0, 1), (1, .iload_n 1, 1), (2, .invokevirtual 381, 3), (5, .ifCond .eq 12, 3), (17, .bipush (-2), 2), (19, .ireturn, 1)], 2, [], [], [])
theorem tk_X12_flown : TOK RX12 vwCl gTbl cX12_flown tb_X12_flown := ⟨by decide +kernel, fun _ h => absurd h List.not_mem_nil, fun _ h => absurd h List.not_mem_nil, fun _ h => absurd h List.not_mem_nil⟩
def tb_X11_most : TB := ([(0, .aload_n 0, 1), (1, .iload_n 1, 1), (2, .invokevirtual 139, 3), (5, .ifCond .ne 6, 3), (8, .bipush (-2), 2), (10, .ireturn, 1)], 2, [], [], [])
theorem tk_X11_most : TOK RX11 vwCl gTbl cX11_most tb_X11_most := ⟨by decide +kernel, fun _ h => absurd h List.not_mem_nil, fun _ h => absurd h List.not_mem_nil, fun _ h => absurd h List.not_mem_nil⟩
def tb_X12_asksField : TB := ([(0, .aload_n 0, 1), (1, .invokevirtual 366, 3), (4, .pop, 1), (5, .aload_n 0, 1), (6, .iload_n 1, 1), (7, .i2l, 1), (8, .invokevirtual 109, 3), (11, .ireturn, 1)], 2, [], [], [])
theorem tk_X12_asksField : TOK RX12 vwCl gTbl cX12_asksField tb_X12_asksField := ⟨by decide +kernel, fun _ h => absurd h List.not_mem_nil, fun _ h => absurd h List.not_mem_nil, fun _ h => absurd h List.not_mem_nil⟩
def tb_X12_most : TB := ([(0, .aload_n 0, 1), (1, .iload_n 1, 1), (2, .invokevirtual 384, 3), (5, .ifCond .ne 6, 3), (8, .bipush (-2), 2), (10, .ireturn, 1)], 4, [], [], [])
theorem tk_X12_most : TOK RX12 vwCl gTbl cX12_most tb_X12_most := ⟨by decide +kernel, fun _ h => absurd h List.not_mem_nil, fun _ h => absurd h List.not_mem_nil, fun _ h => absurd h List.not_mem_nil⟩
def tb_X11_bold : TB := ([(0, .aload_n 0, 1), (1, .iload_n 1, 1), (2, .invokevirtual 139, 3), (5, .ifCond .ne 6, 3), (8, .bipush (-2), 2), (10, .ireturn, 1)], 2, [], [], [])
theorem tk_X11_bold : TOK RX11 vwCl gTbl cX11_bold tb_X11_bold := ⟨by decide +kernel, fun _ h => absurd h List.not_mem_nil, fun _ h => absurd h List.not_mem_nil, fun _ h => absurd h List.not_mem_nil⟩
def tb_X12_bold : TB := ([(0, .aload_n 0, 1), (1, .iload_n 1, 1), (2, .invokevirtual 384, 3), (5, .ifCond .ne 6, 3), (8, .bipush (-2), 2), (10, .ireturn, 1)], 4, [], [], [])
theorem tk_X12_bold : TOK RX12 vwCl gTbl cX12_bold tb_X12_bold := ⟨by decide +kernel, fun _ h => absurd h List.not_mem_nil, fun _ h => absurd h List.not_mem_nil, fun _ h => absurd h List.not_mem_nil⟩
def tb_X11_peace : TB := ([(0, .aload_n 0, 1), (1, .invokevirtual 219, 3), (4, .ifCond .ne 6, 3), (7, .bipush (-2), 2), (9, .ireturn, 1)], 4, [], [], [])
theorem tk_X11_peace : TOK RX11 vwCl gTbl cX11_peace tb_X11_peace := ⟨by decide +kernel, fun _ h => absurd h List.not_mem_nil, fun _ h => absurd h List.not_mem_nil, fun _ h => absurd h List.not_mem_nil⟩
def tb_X12_peace : TB := ([(0, .aload_n 0, 1), (1, .invokevirtual 366, 3), (4, .ifCond .ne 6, 3), (7, .bipush (-2), 2), (9, .ireturn, 1)], 4, [], [], [])
theorem tk_X12_peace : TOK RX12 vwCl gTbl cX12_peace tb_X12_peace := ⟨by decide +kernel, fun _ h => absurd h List.not_mem_nil, fun _ h => absurd h List.not_mem_nil, fun _ h => absurd h List.not_mem_nil⟩
def tb_X11_quiet : TB := ([(0, .aload_n 0, 1), (1, .iload_n 1, 1), (2, .invokevirtual 272, 3), (5, .ifCond .ne 6, 3), (8, .bipush (-2), 2), (10, .ireturn, 1)], 4, [], [], [])
theorem tk_X11_quiet : TOK RX11 vwCl gTbl cX11_quiet tb_X11_quiet := ⟨by decide +kernel, fun _ h => absurd h List.not_mem_nil, fun _ h => absurd h List.not_mem_nil, fun _ h => absurd h List.not_mem_nil⟩
def tb_X12_quiet : TB := ([(0, .aload_n 0, 1), (1, .iload_n 1, 1), (2, .invokevirtual 381, 3), (5, .ifCond .ne 6, 3), (8, .bipush (-2), 2), (10, .ireturn, 1)], 4, [], [], [])
theorem tk_X12_quiet : TOK RX12 vwCl gTbl cX12_quiet tb_X12_quiet := ⟨by decide +kernel, fun _ h => absurd h List.not_mem_nil, fun _ h => absurd h List.not_mem_nil, fun _ h => absurd h List.not_mem_nil⟩
def tb_X11_eats : TB := ([(0, .aload_n 0, 1), (1, .iload_n 1, 1), (2, .invokevirtual 139, 3), (5, .ifCond .ne 6, 3), (8, .bipush (-2), 2), (10, .ireturn, 1)], 2, [], [], [])
theorem tk_X11_eats : TOK RX11 vwCl gTbl cX11_eats tb_X11_eats := ⟨by decide +kernel, fun _ h => absurd h List.not_mem_nil, fun _ h => absurd h List.not_mem_nil, fun _ h => absurd h List.not_mem_nil⟩
def tb_X12_eats : TB := ([(0, .aload_n 0, 1), (1, .iload_n 1, 1), (2, .invokevirtual 384, 3), (5, .ifCond .eq 26, 3), (31, .bipush (-2), 2), (33, .ireturn, 1)], 2, [], [], [])
theorem tk_X12_eats : TOK RX12 vwCl gTbl cX12_eats tb_X12_eats := ⟨by decide +kernel, fun _ h => absurd h List.not_mem_nil, fun _ h => absurd h List.not_mem_nil, fun _ h => absurd h List.not_mem_nil⟩
def tb_X11_guards : TB := ([(0, .aload_n 0, 1), (1, .invokevirtual 219, 3), (4, .ifCond .ne 6, 3), (7, .bipush (-2), 2), (9, .ireturn, 1)], 3, [], [], [])
theorem tk_X11_guards : TOK RX11 vwCl gTbl cX11_guards tb_X11_guards := ⟨by decide +kernel, fun _ h => absurd h List.not_mem_nil, fun _ h => absurd h List.not_mem_nil, fun _ h => absurd h List.not_mem_nil⟩
def tb_X12_guards : TB := ([(0, .aload_n 0, 1), (1, .invokevirtual 345, 3), (4, .aload_n 0, 1), (5, .invokevirtual 99, 3), (8, .ifCond .ne 6, 3), (11, .bipush (-2), 2), (13, .ireturn, 1)], 3, [], [], [])
theorem tk_X12_guards : TOK RX12 vwCl gTbl cX12_guards tb_X12_guards := ⟨by decide +kernel, fun _ h => absurd h List.not_mem_nil, fun _ h => absurd h List.not_mem_nil, fun _ h => absurd h List.not_mem_nil⟩
def tb_X11_tired : TB := ([(0, .aload_n 0, 1), (1, .iload_n 1, 1), (2, .invokevirtual 156, 3), (5, .ifCond .ne 6, 3), (8, .bipush (-2), 2), (10, .ireturn, 1)], 4, [], [], [])
theorem tk_X11_tired : TOK RX11 vwCl gTbl cX11_tired tb_X11_tired := ⟨by decide +kernel, fun _ h => absurd h List.not_mem_nil, fun _ h => absurd h List.not_mem_nil, fun _ h => absurd h List.not_mem_nil⟩
def tb_X12_tired : TB := ([(0, .aload_n 0, 1), (1, .iload_n 1, 1), (2, .invokevirtual 236, 3), (5, .ifCond .ne 6, 3), (8, .bipush (-2), 2), (10, .ireturn, 1)], 4, [], [], [])
theorem tk_X12_tired : TOK RX12 vwCl gTbl cX12_tired tb_X12_tired := ⟨by decide +kernel, fun _ h => absurd h List.not_mem_nil, fun _ h => absurd h List.not_mem_nil, fun _ h => absurd h List.not_mem_nil⟩
def tb_X11_swings : TB := ([(0, .aload_n 0, 1), (1, .invokevirtual 219, 3), (4, .ifCond .eq 13, 3), (17, .bipush (-2), 2), (19, .ireturn, 1)], 1, [], [], [])
theorem tk_X11_swings : TOK RX11 vwCl gTbl cX11_swings tb_X11_swings := ⟨by decide +kernel, fun _ h => absurd h List.not_mem_nil, fun _ h => absurd h List.not_mem_nil, fun _ h => absurd h List.not_mem_nil⟩
def tb_X12_swings : TB := ([(0, .aload_n 0, 1), (1, .invokevirtual 99, 3), (4, .ifCond .ne 6, 3), (7, .bipush (-2), 2), (9, .ireturn, 1)], 4, [], [], [])
theorem tk_X12_swings : TOK RX12 vwCl gTbl cX12_swings tb_X12_swings := ⟨by decide +kernel, fun _ h => absurd h List.not_mem_nil, fun _ h => absurd h List.not_mem_nil, fun _ h => absurd h List.not_mem_nil⟩
def tb_X11_shunned : TB := ([(0, .aload_n 0, 1), (1, .iload_n 1, 1), (2, .invokevirtual 156, 3), (5, .ifCond .eq 14, 3), (19, .bipush (-2), 2), (21, .ireturn, 1)], 2, [], [], [])
theorem tk_X11_shunned : TOK RX11 vwCl gTbl cX11_shunned tb_X11_shunned := ⟨by decide +kernel, fun _ h => absurd h List.not_mem_nil, fun _ h => absurd h List.not_mem_nil, fun _ h => absurd h List.not_mem_nil⟩
def tb_X12_shunned : TB := ([(0, .aload_n 0, 1), (1, .iload_n 1, 1), (2, .invokevirtual 236, 3), (5, .ifCond .ne 6, 3), (8, .bipush (-2), 2), (10, .ireturn, 1)], 4, [], [], [])
theorem tk_X12_shunned : TOK RX12 vwCl gTbl cX12_shunned tb_X12_shunned := ⟨by decide +kernel, fun _ h => absurd h List.not_mem_nil, fun _ h => absurd h List.not_mem_nil, fun _ h => absurd h List.not_mem_nil⟩
def tb_X11_loved : TB := ([(0, .aload_n 0, 1), (1, .iload_n 1, 1), (2, .invokevirtual 156, 3), (5, .ifCond .eq 14, 3), (19, .bipush (-2), 2), (21, .ireturn, 1)], 2, [], [], [])
theorem tk_X11_loved : TOK RX11 vwCl gTbl cX11_loved tb_X11_loved := ⟨by decide +kernel, fun _ h => absurd h List.not_mem_nil, fun _ h => absurd h List.not_mem_nil, fun _ h => absurd h List.not_mem_nil⟩
def tb_X12_loved : TB := ([(0, .aload_n 0, 1), (1, .iload_n 1, 1), (2, .invokevirtual 236, 3), (5, .ifCond .ne 6, 3), (8, .bipush (-2), 2), (10, .ireturn, 1)], 4, [], [], [])
theorem tk_X12_loved : TOK RX12 vwCl gTbl cX12_loved tb_X12_loved := ⟨by decide +kernel, fun _ h => absurd h List.not_mem_nil, fun _ h => absurd h List.not_mem_nil, fun _ h => absurd h List.not_mem_nil⟩
def tb_X11_worst : TB := ([(0, .aload_n 0, 1), (1, .invokevirtual 219, 3), (4, .ifCond .ne 6, 3), (7, .bipush (-2), 2), (9, .ireturn, 1)], 3, [], [], [])
theorem tk_X11_worst : TOK RX11 vwCl gTbl cX11_worst tb_X11_worst := ⟨by decide +kernel, fun _ h => absurd h List.not_mem_nil, fun _ h => absurd h List.not_mem_nil, fun _ h => absurd h List.not_mem_nil⟩
def tb_X12_worst : TB := ([(0, .aload_n 0, 1), (1, .invokevirtual 366, 3), (4, .ifCond .ne 6, 3), (7, .bipush (-2), 2), (9, .ireturn, 1)], 3, [], [], [])
theorem tk_X12_worst : TOK RX12 vwCl gTbl cX12_worst tb_X12_worst := ⟨by decide +kernel, fun _ h => absurd h List.not_mem_nil, fun _ h => absurd h List.not_mem_nil, fun _ h => absurd h List.not_mem_nil⟩
def tb_X11_kept : TB := ([(0, .aload_n 0, 1), (1, .invokevirtual 219, 3), (4, .ifCond .ne 6, 3), (7, .bipush (-2), 2), (9, .ireturn, 1)], 3, [], [], [])
theorem tk_X11_kept : TOK RX11 vwCl gTbl cX11_kept tb_X11_kept := ⟨by decide +kernel, fun _ h => absurd h List.not_mem_nil, fun _ h => absurd h List.not_mem_nil, fun _ h => absurd h List.not_mem_nil⟩
def tb_X12_kept : TB := ([(0, .aload_n 0, 1), (1, .invokevirtual 366, 3), (4, .ifCond .ne 6, 3), (7, .bipush (-2), 2), (9, .ireturn, 1)], 3, [], [], [])
theorem tk_X12_kept : TOK RX12 vwCl gTbl cX12_kept tb_X12_kept := ⟨by decide +kernel, fun _ h => absurd h List.not_mem_nil, fun _ h => absurd h List.not_mem_nil, fun _ h => absurd h List.not_mem_nil⟩
def tb_X11_bare : TB := ([(0, .aload_n 0, 1), (1, .iload_n 1, 1), (2, .invokevirtual 139, 3), (5, .ifCond .eq 18, 3), (23, .bipush (-2), 2), (25, .ireturn, 1)], 2, [], [], [])
theorem tk_X11_bare : TOK RX11 vwCl gTbl cX11_bare tb_X11_bare := ⟨by decide +kernel, fun _ h => absurd h List.not_mem_nil, fun _ h => absurd h List.not_mem_nil, fun _ h => absurd h List.not_mem_nil⟩
def tb_X12_bare : TB := ([(0, .aload_n 0, 1), (1, .iload_n 1, 1), (2, .invokevirtual 384, 3), (5, .ifCond .ne 6, 3), (8, .bipush (-2), 2), (10, .ireturn, 1)], 3, [], [], [])
theorem tk_X12_bare : TOK RX12 vwCl gTbl cX12_bare tb_X12_bare := ⟨by decide +kernel, fun _ h => absurd h List.not_mem_nil, fun _ h => absurd h List.not_mem_nil, fun _ h => absurd h List.not_mem_nil⟩
def tb_X11_shoulder : TB := ([(0, .aload_n 0, 1), (1, .iload_n 1, 1), (2, .invokevirtual 139, 3), (5, .ifCond .eq 18, 3), (23, .bipush (-2), 2), (25, .ireturn, 1)], 2, [], [], [])
theorem tk_X11_shoulder : TOK RX11 vwCl gTbl cX11_shoulder tb_X11_shoulder := ⟨by decide +kernel, fun _ h => absurd h List.not_mem_nil, fun _ h => absurd h List.not_mem_nil, fun _ h => absurd h List.not_mem_nil⟩
def tb_X12_shoulder : TB := ([(0, .aload_n 0, 1), (1, .iload_n 1, 1), (2, .invokevirtual 384, 3), (5, .ifCond .ne 6, 3), (8, .bipush (-2), 2), (10, .ireturn, 1)], 3, [], [], [])
theorem tk_X12_shoulder : TOK RX12 vwCl gTbl cX12_shoulder tb_X12_shoulder := ⟨by decide +kernel, fun _ h => absurd h List.not_mem_nil, fun _ h => absurd h List.not_mem_nil, fun _ h => absurd h List.not_mem_nil⟩
def tb_X11_black : TB := ([(0, .aload_n 0, 1), (1, .iload_n 1, 1), (2, .invokevirtual 260, 3), (5, .ifCond .eq 18, 3), (23, .bipush (-2), 2), (25, .ireturn, 1)], 2, [], [], [])
theorem tk_X11_black : TOK RX11 vwCl gTbl cX11_black tb_X11_black := ⟨by decide +kernel, fun _ h => absurd h List.not_mem_nil, fun _ h => absurd h List.not_mem_nil, fun _ h => absurd h List.not_mem_nil⟩
def tb_X12_black : TB := ([(0, .aload_n 0, 1), (1, .iload_n 1, 1), (2, .invokevirtual 378, 3), (5, .ifCond .ne 6, 3), (8, .bipush (-2), 2), (10, .ireturn, 1)], 4, [], [], [])
theorem tk_X12_black : TOK RX12 vwCl gTbl cX12_black tb_X12_black := ⟨by decide +kernel, fun _ h => absurd h List.not_mem_nil, fun _ h => absurd h List.not_mem_nil, fun _ h => absurd h List.not_mem_nil⟩
def tb_X11_all : TB := ([(0, .aload_n 0, 1), (1, .iload_n 1, 1), (2, .invokevirtual 260, 3), (5, .ifCond .eq 18, 3), (23, .bipush (-2), 2), (25, .ireturn, 1)], 2, [], [], [])
theorem tk_X11_all : TOK RX11 vwCl gTbl cX11_all tb_X11_all := ⟨by decide +kernel, fun _ h => absurd h List.not_mem_nil, fun _ h => absurd h List.not_mem_nil, fun _ h => absurd h List.not_mem_nil⟩
def tb_X12_all : TB := ([(0, .aload_n 0, 1), (1, .iload_n 1, 1), (2, .invokevirtual 378, 3), (5, .ifCond .eq 11, 3), (16, .bipush (-2), 2), (18, .ireturn, 1)], 2, [], [], [])
theorem tk_X12_all : TOK RX12 vwCl gTbl cX12_all tb_X12_all := ⟨by decide +kernel, fun _ h => absurd h List.not_mem_nil, fun _ h => absurd h List.not_mem_nil, fun _ h => absurd h List.not_mem_nil⟩
def tb_X11_flies : TB := ([(0, .aload_n 0, 1), (1, .iload_n 1, 1), (2, .invokevirtual 139, 3), (5, .ifCond .eq 27, 3), (32, .bipush (-2), 2), (34, .ireturn, 1)], 3, [], [], [])
theorem tk_X11_flies : TOK RX11 vwCl gTbl cX11_flies tb_X11_flies := ⟨by decide +kernel, fun _ h => absurd h List.not_mem_nil, fun _ h => absurd h List.not_mem_nil, fun _ h => absurd h List.not_mem_nil⟩
def tb_X12_flies : TB := ([(0, .aload_n 0, 1), (1, .iload_n 2, 1), (2, .invokevirtual 381, 3), (5, .ifCond .eq 25, 3), (30, .bipush (-2), 2), (32, .ireturn, 1)], 3, [], [], [])
theorem tk_X12_flies : TOK RX12 vwCl gTbl cX12_flies tb_X12_flies := ⟨by decide +kernel, fun _ h => absurd h List.not_mem_nil, fun _ h => absurd h List.not_mem_nil, fun _ h => absurd h List.not_mem_nil⟩
def tb_X11_eaten : TB := ([(0, .aload_n 0, 1), (1, .iload_n 1, 1), (2, .invokevirtual 139, 3), (5, .ifCond .eq 27, 3), (32, .bipush (-2), 2), (34, .ireturn, 1)], 3, [], [], [])
theorem tk_X11_eaten : TOK RX11 vwCl gTbl cX11_eaten tb_X11_eaten := ⟨by decide +kernel, fun _ h => absurd h List.not_mem_nil, fun _ h => absurd h List.not_mem_nil, fun _ h => absurd h List.not_mem_nil⟩
def tb_X12_eaten : TB := ([(0, .aload_n 0, 1), (1, .iload_n 2, 1), (2, .invokevirtual 381, 3), (5, .ifCond .eq 25, 3), (30, .bipush (-2), 2), (32, .ireturn, 1)], 3, [], [], [])
theorem tk_X12_eaten : TOK RX12 vwCl gTbl cX12_eaten tb_X12_eaten := ⟨by decide +kernel, fun _ h => absurd h List.not_mem_nil, fun _ h => absurd h List.not_mem_nil, fun _ h => absurd h List.not_mem_nil⟩
def tb_X11_corn : TB := ([(0, .aload_n 0, 1), (1, .iload_n 1, 1), (2, .invokevirtual 139, 3), (5, .ifCond .eq 27, 3), (32, .bipush (-2), 2), (34, .ireturn, 1)], 3, [], [], [])
theorem tk_X11_corn : TOK RX11 vwCl gTbl cX11_corn tb_X11_corn := ⟨by decide +kernel, fun _ h => absurd h List.not_mem_nil, fun _ h => absurd h List.not_mem_nil, fun _ h => absurd h List.not_mem_nil⟩
def tb_X12_corn : TB := ([(0, .aload_n 0, 1), (1, .iload_n 2, 1), (2, .invokevirtual 378, 3), (5, .ifCond .eq 25, 3), (30, .bipush (-2), 2), (32, .ireturn, 1)], 3, [], [], [])
theorem tk_X12_corn : TOK RX12 vwCl gTbl cX12_corn tb_X12_corn := ⟨by decide +kernel, fun _ h => absurd h List.not_mem_nil, fun _ h => absurd h List.not_mem_nil, fun _ h => absurd h List.not_mem_nil⟩
def tb_X11_rooks : TB := ([(0, .aload_n 0, 1), (1, .iload_n 1, 1), (2, .invokevirtual 139, 3), (5, .ifCond .eq 27, 3), (32, .bipush (-2), 2), (34, .ireturn, 1)], 3, [], [], [])
theorem tk_X11_rooks : TOK RX11 vwCl gTbl cX11_rooks tb_X11_rooks := ⟨by decide +kernel, fun _ h => absurd h List.not_mem_nil, fun _ h => absurd h List.not_mem_nil, fun _ h => absurd h List.not_mem_nil⟩
def tb_X12_rooks : TB := ([(0, .aload_n 0, 1), (1, .iload_n 2, 1), (2, .invokevirtual 378, 3), (5, .ifCond .eq 25, 3), (30, .bipush (-2), 2), (32, .ireturn, 1)], 3, [], [], [])
theorem tk_X12_rooks : TOK RX12 vwCl gTbl cX12_rooks tb_X12_rooks := ⟨by decide +kernel, fun _ h => absurd h List.not_mem_nil, fun _ h => absurd h List.not_mem_nil, fun _ h => absurd h List.not_mem_nil⟩
def tb_X11_fear : TB := ([(0, .aload_n 0, 1), (1, .iload_n 1, 1), (2, .invokevirtual 139, 3), (5, .ifCond .eq 27, 3), (32, .bipush (-2), 2), (34, .ireturn, 1)], 3, [], [], [])
theorem tk_X11_fear : TOK RX11 vwCl gTbl cX11_fear tb_X11_fear := ⟨by decide +kernel, fun _ h => absurd h List.not_mem_nil, fun _ h => absurd h List.not_mem_nil, fun _ h => absurd h List.not_mem_nil⟩
def tb_X12_fear : TB := ([(0, .aload_n 0, 1), (1, .iload_n 2, 1), (2, .invokevirtual 378, 3), (5, .ifCond .eq 25, 3), (30, .bipush (-2), 2), (32, .ireturn, 1)], 3, [], [], [])
theorem tk_X12_fear : TOK RX12 vwCl gTbl cX12_fear tb_X12_fear := ⟨by decide +kernel, fun _ h => absurd h List.not_mem_nil, fun _ h => absurd h List.not_mem_nil, fun _ h => absurd h List.not_mem_nil⟩
def tb_X11_isVoter : TB := ([(0, .iload_n 1, 1), (1, .ifCond .lt 21, 3), (4, .iload_n 1, 1), (5, .aload_n 0, 1), (6, .getfield 28, 3), (9, .getfield 45, 3), (12, .getfield 244, 3), (15, .if_icmp .ge 7, 3), (22, .iconst 0, 1), (23, .ireturn, 1)], 2, [], [], [(28, 11, 2, 9), (45, 9, 0, 9), (244, 4, 7, 0)])
theorem tk_X11_isVoter : TOK RX11 vwCl gTbl cX11_isVoter tb_X11_isVoter := ⟨by decide +kernel, fun _ h => absurd h List.not_mem_nil, fun _ h => absurd h List.not_mem_nil, List.forall_mem_cons.mpr ⟨fk_RX11_28, List.forall_mem_cons.mpr ⟨fk_RX11_45, List.forall_mem_cons.mpr ⟨fk_RX11_244, fun _ h => absurd h List.not_mem_nil⟩⟩⟩⟩
def tb_X11_power : TB := ([(0, .aload_n 0, 1), (1, .iload_n 1, 1), (2, .invokevirtual 165, 3), (5, .ifCond .eq 10, 3), (15, .bipush (-2), 2), (17, .ireturn, 1)], 3, [], [], [])
theorem tk_X11_power : TOK RX11 vwCl gTbl cX11_power tb_X11_power := ⟨by decide +kernel, fun _ h => absurd h List.not_mem_nil, fun _ h => absurd h List.not_mem_nil, fun _ h => absurd h List.not_mem_nil⟩
def tb_X12_isVoter : TB := ([(0, .iload_n 1, 1), (1, .i2l, 1), (2, .lconst 0, 1), (3, .aload_n 0, 1), (4, .getfield 9, 3), (7, .bipush 6, 2), (9, .iaload, 1), (10, .iconst 1, 1), (11, .isub, 1), (12, .i2l, 1), (13, .invokestatic 91, 3), (16, .ireturn, 1)], 2, [], [], [(9, 12, 1, 9)])
theorem tk_X12_isVoter : TOK RX12 vwCl gTbl cX12_isVoter tb_X12_isVoter := ⟨by decide +kernel, fun _ h => absurd h List.not_mem_nil, fun _ h => absurd h List.not_mem_nil, List.forall_mem_cons.mpr ⟨fk_RX12_9, fun _ h => absurd h List.not_mem_nil⟩⟩
def tb_X12_power : TB := ([(0, .aload_n 0, 1), (1, .iload_n 1, 1), (2, .invokevirtual 240, 3), (5, .ifCond .eq 13, 3), (18, .bipush (-2), 2), (20, .ireturn, 1)], 8, [], [], [])
theorem tk_X12_power : TOK RX12 vwCl gTbl cX12_power tb_X12_power := ⟨by decide +kernel, fun _ h => absurd h List.not_mem_nil, fun _ h => absurd h List.not_mem_nil, fun _ h => absurd h List.not_mem_nil⟩
def tb_X11_plain : TB := ([(0, .aload_n 0, 1), (1, .invokevirtual 219, 3), (4, .ifCond .ne 6, 3), (7, .bipush (-2), 2), (9, .ireturn, 1)], 1, [], [], [])
theorem tk_X11_plain : TOK RX11 vwCl gTbl cX11_plain tb_X11_plain := ⟨by decide +kernel, fun _ h => absurd h List.not_mem_nil, fun _ h => absurd h List.not_mem_nil, fun _ h => absurd h List.not_mem_nil⟩
def tb_X12_plain : TB := ([(0, .aload_n 0, 1), (1, .invokevirtual 99, 3), (4, .ifCond .ne 6, 3), (7, .bipush (-2), 2), (9, .ireturn, 1)], 3, [], [], [])
theorem tk_X12_plain : TOK RX12 vwCl gTbl cX12_plain tb_X12_plain := ⟨by decide +kernel, fun _ h => absurd h List.not_mem_nil, fun _ h => absurd h List.not_mem_nil, fun _ h => absurd h List.not_mem_nil⟩
def tb_X11_gains : TB := ([(0, .aload_n 0, 1), (1, .iload_n 1, 1), (2, .invokevirtual 165, 3), (5, .ifCond .ne 6, 3), (8, .bipush (-2), 2), (10, .ireturn, 1)], 2, [], [], [])
theorem tk_X11_gains : TOK RX11 vwCl gTbl cX11_gains tb_X11_gains := ⟨by decide +kernel, fun _ h => absurd h List.not_mem_nil, fun _ h => absurd h List.not_mem_nil, fun _ h => absurd h List.not_mem_nil⟩
def tb_X12_gains : TB := ([(0, .aload_n 0, 1), (1, .iload_n 1, 1), (2, .invokevirtual 240, 3), (5, .ifCond .eq 19, 3), (24, .bipush (-2), 2), (26, .ireturn, 1)], 2, [], [], [])
theorem tk_X12_gains : TOK RX12 vwCl gTbl cX12_gains tb_X12_gains := ⟨by decide +kernel, fun _ h => absurd h List.not_mem_nil, fun _ h => absurd h List.not_mem_nil, fun _ h => absurd h List.not_mem_nil⟩
def tb_X11_least : TB := ([(0, .aload_n 0, 1), (1, .iload_n 1, 1), (2, .invokevirtual 156, 3), (5, .ifCond .eq 14, 3), (19, .bipush (-2), 2), (21, .ireturn, 1)], 2, [], [], [])
theorem tk_X11_least : TOK RX11 vwCl gTbl cX11_least tb_X11_least := ⟨by decide +kernel, fun _ h => absurd h List.not_mem_nil, fun _ h => absurd h List.not_mem_nil, fun _ h => absurd h List.not_mem_nil⟩
def tb_X12_least : TB := ([(0, .aload_n 0, 1), (1, .iload_n 1, 1), (2, .invokevirtual 236, 3), (5, .ifCond .ne 6, 3), (8, .bipush (-2), 2), (10, .ireturn, 1)], 3, [], [], [])
theorem tk_X12_least : TOK RX12 vwCl gTbl cX12_least tb_X12_least := ⟨by decide +kernel, fun _ h => absurd h List.not_mem_nil, fun _ h => absurd h List.not_mem_nil, fun _ h => absurd h List.not_mem_nil⟩
def tb_X11_rings : TB := ([(0, .aload_n 0, 1), (1, .invokevirtual 219, 3), (4, .ifCond .eq 13, 3), (17, .bipush (-2), 2), (19, .ireturn, 1)], 1, [], [], [])
theorem tk_X11_rings : TOK RX11 vwCl gTbl cX11_rings tb_X11_rings := ⟨by decide +kernel, fun _ h => absurd h List.not_mem_nil, fun _ h => absurd h List.not_mem_nil, fun _ h => absurd h List.not_mem_nil⟩
def tb_X12_rings : TB := ([(0, .aload_n 0, 1), (1, .invokevirtual 99, 3), (4, .ifCond .ne 6, 3), (7, .bipush (-2), 2), (9, .ireturn, 1)], 5, [], [], [])
theorem tk_X12_rings : TOK RX12 vwCl gTbl cX12_rings tb_X12_rings := ⟨by decide +kernel, fun _ h => absurd h List.not_mem_nil, fun _ h => absurd h List.not_mem_nil, fun _ h => absurd h List.not_mem_nil⟩
def tb_X11_beats : TB := ([(0, .aload_n 0, 1), (1, .invokevirtual 219, 3), (4, .ifCond .eq 13, 3), (17, .bipush (-2), 2), (19, .ireturn, 1)], 1, [], [], [])
theorem tk_X11_beats : TOK RX11 vwCl gTbl cX11_beats tb_X11_beats := ⟨by decide +kernel, fun _ h => absurd h List.not_mem_nil, fun _ h => absurd h List.not_mem_nil, fun _ h => absurd h List.not_mem_nil⟩
def tb_X12_beats : TB := ([(0, .aload_n 0, 1), (1, .invokevirtual 99, 3), (4, .ifCond .ne 6, 3), (7, .bipush (-2), 2), (9, .ireturn, 1)], 4, [], [], [])
theorem tk_X12_beats : TOK RX12 vwCl gTbl cX12_beats tb_X12_beats := ⟨by decide +kernel, fun _ h => absurd h List.not_mem_nil, fun _ h => absurd h List.not_mem_nil, fun _ h => absurd h List.not_mem_nil⟩
def tb_X11_over : TB := ([(0, .aload_n 0, 1), (1, .iload_n 1, 1), (2, .invokevirtual 156, 3), (5, .ifCond .eq 16, 3), (21, .bipush (-2), 2), (23, .ireturn, 1)], 3, [], [], [])
theorem tk_X11_over : TOK RX11 vwCl gTbl cX11_over tb_X11_over := ⟨by decide +kernel, fun _ h => absurd h List.not_mem_nil, fun _ h => absurd h List.not_mem_nil, fun _ h => absurd h List.not_mem_nil⟩
def tb_X12_over : TB := ([(0, .aload_n 0, 1), (1, .iload_n 1, 1), (2, .invokevirtual 236, 3), (5, .ifCond .eq 25, 3), (30, .bipush (-2), 2), (32, .ireturn, 1)], 3, [], [], [])
theorem tk_X12_over : TOK RX12 vwCl gTbl cX12_over tb_X12_over := ⟨by decide +kernel, fun _ h => absurd h List.not_mem_nil, fun _ h => absurd h List.not_mem_nil, fun _ h => absurd h List.not_mem_nil⟩
def tb_X11_where : TB := ([(0, .aload_n 0, 1), (1, .iload_n 1, 1), (2, .invokevirtual 156, 3), (5, .ifCond .ne 6, 3), (8, .bipush (-2), 2), (10, .ireturn, 1)], 2, [], [], [])
theorem tk_X11_where : TOK RX11 vwCl gTbl cX11_where tb_X11_where := ⟨by decide +kernel, fun _ h => absurd h List.not_mem_nil, fun _ h => absurd h List.not_mem_nil, fun _ h => absurd h List.not_mem_nil⟩
def tb_X12_where : TB := ([(0, .aload_n 0, 1), (1, .invokevirtual 345, 3), (4, .aload_n 0, 1), (5, .iload_n 1, 1), (6, .invokevirtual 236, 3), (9, .ifCond .ne 6, 3), (12, .bipush (-2), 2), (14, .ireturn, 1)], 3, [], [], [])
theorem tk_X12_where : TOK RX12 vwCl gTbl cX12_where tb_X12_where := ⟨by decide +kernel, fun _ h => absurd h List.not_mem_nil, fun _ h => absurd h List.not_mem_nil, fun _ h => absurd h List.not_mem_nil⟩
def tb_X11_stands : TB := ([(0, .aload_n 0, 1), (1, .iload_n 1, 1), (2, .invokevirtual 139, 3), (5, .ifCond .ne 6, 3), (8, .bipush (-2), 2), (10, .ireturn, 1)], 2, [], [], [])
theorem tk_X11_stands : TOK RX11 vwCl gTbl cX11_stands tb_X11_stands := ⟨by decide +kernel, fun _ h => absurd h List.not_mem_nil, fun _ h => absurd h List.not_mem_nil, fun _ h => absurd h List.not_mem_nil⟩
def tb_X12_stands : TB := ([(0, .aload_n 0, 1), (1, .invokevirtual 345, 3), (4, .aload_n 0, 1), (5, .iload_n 1, 1), (6, .i2l, 1), (7, .invokevirtual 109, 3), (10, .ifCond .eq 12, 3), (22, .bipush (-2), 2), (24, .ireturn, 1)], 2, [], [], [])
theorem tk_X12_stands : TOK RX12 vwCl gTbl cX12_stands tb_X12_stands := ⟨by decide +kernel, fun _ h => absurd h List.not_mem_nil, fun _ h => absurd h List.not_mem_nil, fun _ h => absurd h List.not_mem_nil⟩
def tb_X11_elected : TB := ([(0, .aload_n 0, 1), (1, .iload_n 1, 1), (2, .invokevirtual 139, 3), (5, .ifCond .ne 6, 3), (8, .bipush (-2), 2), (10, .ireturn, 1)], 2, [], [], [])
theorem tk_X11_elected : TOK RX11 vwCl gTbl cX11_elected tb_X11_elected := ⟨by decide +kernel, fun _ h => absurd h List.not_mem_nil, fun _ h => absurd h List.not_mem_nil, fun _ h => absurd h List.not_mem_nil⟩
def tb_X12_elected : TB := ([(0, .aload_n 0, 1), (1, .iload_n 1, 1), (2, .i2l, 1), (3, .invokevirtual 109, 3), (6, .ifCond .ne 6, 3), (9, .bipush (-2), 2), (11, .ireturn, 1)], 2, [], [], [])
theorem tk_X12_elected : TOK RX12 vwCl gTbl cX12_elected tb_X12_elected := ⟨by decide +kernel, fun _ h => absurd h List.not_mem_nil, fun _ h => absurd h List.not_mem_nil, fun _ h => absurd h List.not_mem_nil⟩
def tb_X11_isSet : TB := ([(0, .aload_n 0, 1), (1, .invokevirtual 219, 3), (4, .ifCond .eq 27, 3), (31, .iconst 0, 1), (32, .ireturn, 1)], 2, [], [], [])
theorem tk_X11_isSet : TOK RX11 vwCl gTbl cX11_isSet tb_X11_isSet := ⟨by decide +kernel, fun _ h => absurd h List.not_mem_nil, fun _ h => absurd h List.not_mem_nil, fun _ h => absurd h List.not_mem_nil⟩
def tb_X11_elects : TB := ([(0, .aload_n 0, 1), (1, .iload_n 1, 1), (2, .invokevirtual 177, 3), (5, .ifCond .eq 10, 3), (15, .bipush (-2), 2), (17, .ireturn, 1)], 3, [], [], [])
theorem tk_X11_elects : TOK RX11 vwCl gTbl cX11_elects tb_X11_elects := ⟨by decide +kernel, fun _ h => absurd h List.not_mem_nil, fun _ h => absurd h List.not_mem_nil, fun _ h => absurd h List.not_mem_nil⟩
def tb_X12_isSet : TB := ([(0, .aload_n 0, 1), (1, .invokevirtual 99, 3), (4, .ifCond .eq 21, 3), (25, .iconst 0, 1), (26, .ireturn, 1)], 2, [], [], [])
theorem tk_X12_isSet : TOK RX12 vwCl gTbl cX12_isSet tb_X12_isSet := ⟨by decide +kernel, fun _ h => absurd h List.not_mem_nil, fun _ h => absurd h List.not_mem_nil, fun _ h => absurd h List.not_mem_nil⟩
def tb_X12_elects : TB := ([(0, .aload_n 0, 1), (1, .invokevirtual 249, 3), (4, .aload_n 0, 1), (5, .iload_n 1, 1), (6, .invokevirtual 272, 3), (9, .ifCond .eq 24, 3), (33, .bipush (-2), 2), (35, .ireturn, 1)], 3, [], [], [])
theorem tk_X12_elects : TOK RX12 vwCl gTbl cX12_elects tb_X12_elects := ⟨by decide +kernel, fun _ h => absurd h List.not_mem_nil, fun _ h => absurd h List.not_mem_nil, fun _ h => absurd h List.not_mem_nil⟩
def tb_X11_votes : TB := ([(0, .aload_n 0, 1), (1, .iload_n 1, 1), (2, .invokevirtual 177, 3), (5, .ifCond .eq 26, 3), (31, .bipush (-2), 2), (33, .ireturn, 1)], 4, [], [], [])
theorem tk_X11_votes : TOK RX11 vwCl gTbl cX11_votes tb_X11_votes := ⟨by decide +kernel, fun _ h => absurd h List.not_mem_nil, fun _ h => absurd h List.not_mem_nil, fun _ h => absurd h List.not_mem_nil⟩
def tb_X12_votes : TB := ([(0, .aload_n 0, 1), (1, .invokevirtual 249, 3), (4, .aload_n 0, 1), (5, .iload_n 1, 1), (6, .invokevirtual 272, 3), (9, .ifCond .eq 42, 3), (51, .bipush (-2), 2), (53, .ireturn, 1)], 4, [], [], [])
theorem tk_X12_votes : TOK RX12 vwCl gTbl cX12_votes tb_X12_votes := ⟨by decide +kernel, fun _ h => absurd h List.not_mem_nil, fun _ h => absurd h List.not_mem_nil, fun _ h => absurd h List.not_mem_nil⟩
def tb_X11_wants : TB := ([(0, .aload_n 0, 1), (1, .iload_n 1, 1), (2, .invokevirtual 165, 3), (5, .ifCond .ne 6, 3), (8, .bipush (-2), 2), (10, .ireturn, 1)], 3, [], [], [])
theorem tk_X11_wants : TOK RX11 vwCl gTbl cX11_wants tb_X11_wants := ⟨by decide +kernel, fun _ h => absurd h List.not_mem_nil, fun _ h => absurd h List.not_mem_nil, fun _ h => absurd h List.not_mem_nil⟩
def tb_X12_wants : TB := ([(0, .aload_n 0, 1), (1, .iload_n 1, 1), (2, .invokevirtual 240, 3), (5, .ifCond .ne 6, 3), (8, .bipush (-2), 2), (10, .ireturn, 1)], 3, [], [], [])
theorem tk_X12_wants : TOK RX12 vwCl gTbl cX12_wants tb_X12_wants := ⟨by decide +kernel, fun _ h => absurd h List.not_mem_nil, fun _ h => absurd h List.not_mem_nil, fun _ h => absurd h List.not_mem_nil⟩
def tb_X11_hats : TB := ([(0, .aload_n 0, 1), (1, .iload_n 1, 1), (2, .invokevirtual 165, 3), (5, .ifCond .eq 18, 3), (23, .bipush (-2), 2), (25, .ireturn, 1)], 2, [], [], [])
theorem tk_X11_hats : TOK RX11 vwCl gTbl cX11_hats tb_X11_hats := ⟨by decide +kernel, fun _ h => absurd h List.not_mem_nil, fun _ h => absurd h List.not_mem_nil, fun _ h => absurd h List.not_mem_nil⟩
def tb_X12_hats : TB := ([(0, .aload_n 0, 1), (1, .iload_n 1, 1), (2, .invokevirtual 240, 3), (5, .ifCond .eq 11, 3), (16, .bipush (-2), 2), (18, .ireturn, 1)], 2, [], [], [])
theorem tk_X12_hats : TOK RX12 vwCl gTbl cX12_hats tb_X12_hats := ⟨by decide +kernel, fun _ h => absurd h List.not_mem_nil, fun _ h => absurd h List.not_mem_nil, fun _ h => absurd h List.not_mem_nil⟩
def tb_X11_man : TB := ([(0, .aload_n 0, 1), (1, .iload_n 1, 1), (2, .invokevirtual 156, 3), (5, .ifCond .eq 10, 3), (15, .bipush (-2), 2), (17, .ireturn, 1)], 3, [], [], [])
theorem tk_X11_man : TOK RX11 vwCl gTbl cX11_man tb_X11_man := ⟨by decide +kernel, fun _ h => absurd h List.not_mem_nil, fun _ h => absurd h List.not_mem_nil, fun _ h => absurd h List.not_mem_nil⟩
def tb_X12_man : TB := ([(0, .aload_n 0, 1), (1, .iload_n 1, 1), (2, .invokevirtual 236, 3), (5, .ifCond .eq 29, 3), (34, .bipush (-2), 2), (36, .ireturn, 1)], 3, [], [], [])
theorem tk_X12_man : TOK RX12 vwCl gTbl cX12_man tb_X12_man := ⟨by decide +kernel, fun _ h => absurd h List.not_mem_nil, fun _ h => absurd h List.not_mem_nil, fun _ h => absurd h List.not_mem_nil⟩
def tb_X11_hedges : TB := ([(0, .aload_n 0, 1), (1, .iload_n 1, 1), (2, .invokevirtual 139, 3), (5, .ifCond .eq 18, 3), (23, .bipush (-2), 2), (25, .ireturn, 1)], 2, [], [], [])
theorem tk_X11_hedges : TOK RX11 vwCl gTbl cX11_hedges tb_X11_hedges := ⟨by decide +kernel, fun _ h => absurd h List.not_mem_nil, fun _ h => absurd h List.not_mem_nil, fun _ h => absurd h List.not_mem_nil⟩
def tb_X12_hedges : TB := ([(0, .aload_n 0, 1), (1, .iconst (-1), 1), (2, .putfield 329, 3), (5, .aload_n 0, 1), (6, .iconst (-1), 1), (7, .putfield 332, 3), (10, .aload_n 0, 1), (11, .iload_n 1, 1), (12, .i2l, 1), (13, .invokevirtual 109, 3), (16, .ifCond .eq 11, 3), (27, .bipush (-2), 2), (29, .ireturn, 1)], 2, [], [], [(329, 12, 23, 0), (332, 12, 24, 0)])
theorem tk_X12_hedges : TOK RX12 vwCl gTbl cX12_hedges tb_X12_hedges := ⟨by decide +kernel, fun _ h => absurd h List.not_mem_nil, fun _ h => absurd h List.not_mem_nil, List.forall_mem_cons.mpr ⟨fk_RX12_329, List.forall_mem_cons.mpr ⟨fk_RX12_332, fun _ h => absurd h List.not_mem_nil⟩⟩⟩
def tb_X11_field : TB := ([(0, .aload_n 0, 1), (1, .iload_n 1, 1), (2, .invokevirtual 139, 3), (5, .ifCond .eq 10, 3), (15, .bipush (-2), 2), (17, .ireturn, 1)], 3, [], [], [])
theorem tk_X11_field : TOK RX11 vwCl gTbl cX11_field tb_X11_field := ⟨by decide +kernel, fun _ h => absurd h List.not_mem_nil, fun _ h => absurd h List.not_mem_nil, fun _ h => absurd h List.not_mem_nil⟩
def tb_X12_field : TB := ([(0, .aload_n 0, 1), (1, .iload_n 1, 1), (2, .i2l, 1), (3, .invokevirtual 109, 3), (6, .ifCond .eq 29, 3), (35, .bipush (-2), 2), (37, .ireturn, 1)], 3, [], [], [])
theorem tk_X12_field : TOK RX12 vwCl gTbl cX12_field tb_X12_field := ⟨by decide +kernel, fun _ h => absurd h List.not_mem_nil, fun _ h => absurd h List.not_mem_nil, fun _ h => absurd h List.not_mem_nil⟩
theorem fk_RX11_21 : FOK RX11 vwCl gTbl (21, 11, 1, 9) := ⟨RX11, TX11, 16, tyX11, rfl, by decide, in_X11, wd_504, tyX11_ok, nmX11, fun h => absurd h (by decide)⟩
theorem in_X6 : ∀ w ∈ u_ws RX6 TX6 4, w ∈ gTbl := ae_in [295, 297, 299, 301] (by decide +kernel) (by decide +kernel)
theorem fk_RX11_110 : FOK RX11 vwCl gTbl (110, 6, 1, 0) := ⟨RX6, TX6, 4, tyX6, rfl, by decide, in_X6, wd_291, tyX6_ok, nmX6, fun _ => ⟨rfl, rfl⟩⟩
theorem fk_RX11_136 : FOK RX11 vwCl gTbl (136, 6, 2, 0) := ⟨RX6, TX6, 4, tyX6, rfl, by decide, in_X6, wd_293, tyX6_ok, nmX6, fun _ => ⟨rfl, rfl⟩⟩
def tb_X11_fault : TB := ([(0, .iload_n 1, 1), (1, .ifCond .ne 11, 3), (4, .aload_n 0, 1), (5, .getfield 21, 3), (8, .getfield 110, 3), (11, .ireturn, 1), (12, .iload_n 1, 1), (13, .iconst 1, 1), (14, .if_icmp .ne 13, 3), (17, .aload_n 0, 1), (18, .getfield 21, 3), (21, .getfield 136, 3), (24, .goto 4, 3), (27, .iconst (-1), 1), (28, .ireturn, 1)], 2, [], [], [(21, 11, 1, 9), (110, 6, 1, 0), (136, 6, 2, 0)])
theorem tk_X11_fault : TOK RX11 vwCl gTbl cX11_fault tb_X11_fault := ⟨by decide +kernel, fun _ h => absurd h List.not_mem_nil, fun _ h => absurd h List.not_mem_nil, List.forall_mem_cons.mpr ⟨fk_RX11_21, List.forall_mem_cons.mpr ⟨fk_RX11_110, List.forall_mem_cons.mpr ⟨fk_RX11_136, fun _ h => absurd h List.not_mem_nil⟩⟩⟩⟩
theorem fk_RX12_150 : FOK RX12 vwCl gTbl (150, 12, 12, 0) := ⟨RX12, TX12, 45, tyX12, rfl, by decide, in_X12, wd_1412, tyX12_ok, nmX12, fun _ => ⟨rfl, rfl⟩⟩
theorem fk_RX12_27 : FOK RX12 vwCl gTbl (27, 12, 13, 0) := ⟨RX12, TX12, 45, tyX12, rfl, by decide, in_X12, wd_1413, tyX12_ok, nmX12, fun _ => ⟨rfl, rfl⟩⟩
def tb_X12_fault : TB := ([(0, .iload_n 1, 1), (1, .ifCond .ne 10, 3), (4, .aload_n 0, 1), (5, .getfield 150, 3), (8, .goto 16, 3), (11, .iload_n 1, 1), (12, .iconst 1, 1), (13, .if_icmp .ne 10, 3), (16, .aload_n 0, 1), (17, .getfield 27, 3), (20, .goto 4, 3), (23, .iconst (-1), 1), (24, .ireturn, 1)], 2, [], [], [(150, 12, 12, 0), (27, 12, 13, 0)])
theorem tk_X12_fault : TOK RX12 vwCl gTbl cX12_fault tb_X12_fault := ⟨by decide +kernel, fun _ h => absurd h List.not_mem_nil, fun _ h => absurd h List.not_mem_nil, List.forall_mem_cons.mpr ⟨fk_RX12_150, List.forall_mem_cons.mpr ⟨fk_RX12_27, fun _ h => absurd h List.not_mem_nil⟩⟩⟩
def tb_X4_clear : TB := ([(0, .aload_n 0, 1), (1, .iconst 0, 1), (2, .putfield 39, 3), (5, .aload_n 0, 1), (6, .iconst 0, 1), (7, .putfield 43, 3), (10, .aload_n 0, 1), (11, .iconst 0, 1), (12, .putfield 46, 3), (15, .aload_n 0, 1), (16, .iconst 0, 1), (17, .putfield 49, 3), (20, .aload_n 0, 1), (21, .iconst 0, 1), (22, .putfield 52, 3), (25, .aload_n 0, 1), (26, .iconst 0, 1), (27, .putfield 55, 3), (30, .aload_n 0, 1), (31, .iconst 0, 1), (32, .putfield 58, 3), (35, .aload_n 0, 1), (36, .iconst 0, 1), (37, .putfield 61, 3), (40, .return_, 1)], 1, [], [], [(39, 4, 0, 0), (43, 4, 1, 0), (46, 4, 2, 0), (49, 4, 3, 0), (52, 4, 4, 0), (55, 4, 5, 0), (58, 4, 6, 0), (61, 4, 7, 0)])
theorem tk_X4_clear : TOK RX4 vwCl gTbl cX4_clear tb_X4_clear := ⟨by decide +kernel, fun _ h => absurd h List.not_mem_nil, fun _ h => absurd h List.not_mem_nil, List.forall_mem_cons.mpr ⟨fk_RX4_39, List.forall_mem_cons.mpr ⟨fk_RX4_43, List.forall_mem_cons.mpr ⟨fk_RX4_46, List.forall_mem_cons.mpr ⟨fk_RX4_49, List.forall_mem_cons.mpr ⟨fk_RX4_52, List.forall_mem_cons.mpr ⟨fk_RX4_55, List.forall_mem_cons.mpr ⟨fk_RX4_58, List.forall_mem_cons.mpr ⟨fk_RX4_61, fun _ h => absurd h List.not_mem_nil⟩⟩⟩⟩⟩⟩⟩⟩⟩
theorem fk_RX10_19 : FOK RX10 vwCl gTbl (19, 10, 5, 0) := ⟨RX10, TX10, 6, tyX10, rfl, by decide, in_X10, wd_168, tyX10_ok, nmX10, fun _ => ⟨rfl, rfl⟩⟩
theorem fk_RX10_15 : FOK RX10 vwCl gTbl (15, 10, 1, 0) := ⟨RX10, TX10, 6, tyX10, rfl, by decide, in_X10, wd_161, tyX10_ok, nmX10, fun _ => ⟨rfl, rfl⟩⟩
theorem fk_RX10_29 : FOK RX10 vwCl gTbl (29, 10, 3, 0) := ⟨RX10, TX10, 6, tyX10, rfl, by decide, in_X10, wd_164, tyX10_ok, nmX10, fun _ => ⟨rfl, rfl⟩⟩
theorem fk_RX10_32 : FOK RX10 vwCl gTbl (32, 10, 2, 0) := ⟨RX10, TX10, 6, tyX10, rfl, by decide, in_X10, wd_163, tyX10_ok, nmX10, fun _ => ⟨rfl, rfl⟩⟩
def tb_X10_step : TB := ([(0, .aload_n 0, 1), (1, .getfield 19, 3), (4, .aload_n 0, 1), (5, .getfield 15, 3), (8, .if_icmp .ge 31, 3), (39, .aload_n 0, 1), (40, .aload_n 0, 1), (41, .getfield 19, 3), (44, .putfield 29, 3), (47, .aload_n 0, 1), (48, .getfield 19, 3), (51, .aload_n 0, 1), (52, .getfield 15, 3), (55, .if_icmp .lt 11, 3), (58, .aload_n 0, 1), (59, .iconst 4, 1), (60, .putfield 32, 3), (63, .goto 188, 3), (251, .return_, 1)], 1, [], [], [(19, 10, 5, 0), (15, 10, 1, 0), (29, 10, 3, 0), (32, 10, 2, 0)])
theorem tk_X10_step : TOK RX10 vwCl gTbl cX10_step tb_X10_step := ⟨by decide +kernel, fun _ h => absurd h List.not_mem_nil, fun _ h => absurd h List.not_mem_nil, List.forall_mem_cons.mpr ⟨fk_RX10_19, List.forall_mem_cons.mpr ⟨fk_RX10_15, List.forall_mem_cons.mpr ⟨fk_RX10_29, List.forall_mem_cons.mpr ⟨fk_RX10_32, fun _ h => absurd h List.not_mem_nil⟩⟩⟩⟩⟩
def tb_X10_rewind : TB := ([(0, .aload_n 0, 1), (1, .iconst 0, 1), (2, .putfield 19, 3), (5, .aload_n 0, 1), (6, .invokevirtual 22, 3), (9, .return_, 1)], 1, [], [], [(19, 10, 5, 0)])
theorem tk_X10_rewind : TOK RX10 vwCl gTbl cX10_rewind tb_X10_rewind := ⟨by decide +kernel, fun _ h => absurd h List.not_mem_nil, fun _ h => absurd h List.not_mem_nil, List.forall_mem_cons.mpr ⟨fk_RX10_19, fun _ h => absurd h List.not_mem_nil⟩⟩
theorem fk_RX6_12 : FOK RX6 vwCl gTbl (12, 6, 0, 9) := ⟨RX6, TX6, 4, tyX6, rfl, by decide, in_X6, wd_288, tyX6_ok, nmX6, fun h => absurd h (by decide)⟩
theorem fk_RX6_29 : FOK RX6 vwCl gTbl (29, 6, 1, 0) := ⟨RX6, TX6, 4, tyX6, rfl, by decide, in_X6, wd_290, tyX6_ok, nmX6, fun _ => ⟨rfl, rfl⟩⟩
theorem fk_RX6_18 : FOK RX6 vwCl gTbl (18, 6, 2, 0) := ⟨RX6, TX6, 4, tyX6, rfl, by decide, in_X6, wd_292, tyX6_ok, nmX6, fun _ => ⟨rfl, rfl⟩⟩
theorem fk_RX6_22 : FOK RX6 vwCl gTbl (22, 6, 3, 9) := ⟨RX6, TX6, 4, tyX6, rfl, by decide, in_X6, wd_294, tyX6_ok, nmX6, fun h => absurd h (by decide)⟩
def tb_X6_begin : TB := ([(0, .aload_n 0, 1), (1, .getfield 12, 3), (4, .invokevirtual 26, 3), (7, .aload_n 0, 1), (8, .iconst 0, 1), (9, .putfield 29, 3), (12, .aload_n 0, 1), (13, .iconst (-1), 1), (14, .putfield 18, 3), (17, .aload_n 0, 1), (18, .getfield 22, 3), (21, .invokevirtual 32, 3), (24, .return_, 1)], 1, [], [], [(12, 6, 0, 9), (29, 6, 1, 0), (18, 6, 2, 0), (22, 6, 3, 9)])
theorem tk_X6_begin : TOK RX6 vwCl gTbl cX6_begin tb_X6_begin := ⟨by decide +kernel, fun _ h => absurd h List.not_mem_nil, fun _ h => absurd h List.not_mem_nil, List.forall_mem_cons.mpr ⟨fk_RX6_12, List.forall_mem_cons.mpr ⟨fk_RX6_29, List.forall_mem_cons.mpr ⟨fk_RX6_18, List.forall_mem_cons.mpr ⟨fk_RX6_22, fun _ h => absurd h List.not_mem_nil⟩⟩⟩⟩⟩
theorem fk_RX6_37 : FOK RX6 vwCl gTbl (37, 10, 2, 0) := ⟨RX10, TX10, 6, tyX10, rfl, by decide, in_X10, wd_162, tyX10_ok, nmX10, fun _ => ⟨rfl, rfl⟩⟩
def tb_X6_hasMore : TB := ([(0, .aload_n 0, 1), (1, .getfield 29, 3), (4, .ifCond .ne 18, 3), (7, .aload_n 0, 1), (8, .getfield 22, 3), (11, .getfield 37, 3), (14, .iconst 4, 1), (15, .if_icmp .eq 7, 3), (22, .iconst 0, 1), (23, .ireturn, 1)], 1, [], [], [(29, 6, 1, 0), (22, 6, 3, 9), (37, 10, 2, 0)])
theorem tk_X6_hasMore : TOK RX6 vwCl gTbl cX6_hasMore tb_X6_hasMore := ⟨by decide +kernel, fun _ h => absurd h List.not_mem_nil, fun _ h => absurd h List.not_mem_nil, List.forall_mem_cons.mpr ⟨fk_RX6_29, List.forall_mem_cons.mpr ⟨fk_RX6_22, List.forall_mem_cons.mpr ⟨fk_RX6_37, fun _ h => absurd h List.not_mem_nil⟩⟩⟩⟩
theorem fk_RX11_448 : FOK RX11 vwCl gTbl (448, 11, 13, 1) := ⟨RX11, TX11, 16, tyX11, rfl, by decide, in_X11, wd_516, tyX11_ok, nmX11, fun _ => ⟨rfl, rfl⟩⟩
theorem fk_RX11_81 : FOK RX11 vwCl gTbl (81, 11, 10, 9) := ⟨RX11, TX11, 16, tyX11, rfl, by decide, in_X11, wd_513, tyX11_ok, nmX11, fun h => absurd h (by decide)⟩
theorem in_X5 : ∀ w ∈ u_ws RX5 TX5 8, w ∈ gTbl := ae_in [464, 466, 468, 470, 472, 474, 476, 478] (by decide +kernel) (by decide +kernel)
theorem fk_RX11_452 : FOK RX11 vwCl gTbl (452, 5, 4, 1) := ⟨RX5, TX5, 8, tyX5, rfl, by decide, in_X5, wd_460, tyX5_ok, nmX5, fun _ => ⟨rfl, rfl⟩⟩
theorem fk_RX11_455 : FOK RX11 vwCl gTbl (455, 11, 14, 1) := ⟨RX11, TX11, 16, tyX11, rfl, by decide, in_X11, wd_517, tyX11_ok, nmX11, fun _ => ⟨rfl, rfl⟩⟩
def tb_X11_forget : TB := ([(0, .aload_n 0, 1), (1, .iconst 0, 1), (2, .putfield 448, 3), (5, .aload_n 0, 1), (6, .getfield 81, 3), (9, .iconst 0, 1), (10, .putfield 452, 3), (13, .aload_n 0, 1), (14, .iconst 0, 1), (15, .putfield 455, 3), (18, .return_, 1)], 1, [], [], [(448, 11, 13, 1), (81, 11, 10, 9), (452, 5, 4, 1), (455, 11, 14, 1)])
theorem tk_X11_forget : TOK RX11 vwCl gTbl cX11_forget tb_X11_forget := ⟨by decide +kernel, fun _ h => absurd h List.not_mem_nil, fun _ h => absurd h List.not_mem_nil, List.forall_mem_cons.mpr ⟨fk_RX11_448, List.forall_mem_cons.mpr ⟨fk_RX11_81, List.forall_mem_cons.mpr ⟨fk_RX11_452, List.forall_mem_cons.mpr ⟨fk_RX11_455, fun _ h => absurd h List.not_mem_nil⟩⟩⟩⟩⟩
theorem fk_RX11_113 : FOK RX11 vwCl gTbl (113, 6, 0, 9) := ⟨RX6, TX6, 4, tyX6, rfl, by decide, in_X6, wd_289, tyX6_ok, nmX6, fun h => absurd h (by decide)⟩
def tb_X11_hundred : TB := ([(0, .aload_n 0, 1), (1, .getfield 21, 3), (4, .invokevirtual 100, 3), (7, .iconst 0, 1), (8, .istore_n 1, 1), (9, .iload_n 1, 1), (10, .sipush 700, 3), (13, .if_icmp .ge 26, 3), (16, .aload_n 0, 1), (17, .getfield 21, 3), (20, .invokevirtual 103, 3), (23, .ifCond .eq 16, 3), (39, .aload_n 0, 1), (40, .getfield 21, 3), (43, .getfield 110, 3), (46, .ifCond .eq 6, 3), (52, .aload_n 0, 1), (53, .getfield 10, 3), (56, .iconst 0, 1), (57, .putfield 92, 3), (60, .aload_n 0, 1), (61, .getfield 28, 3), (64, .getfield 45, 3), (67, .aload_n 0, 1), (68, .getfield 21, 3), (71, .getfield 113, 3), (74, .invokevirtual 116, 3), (77, .aload_n 0, 1), (78, .getfield 28, 3), (81, .getfield 121, 3), (84, .iconst 0, 1), (85, .putfield 125, 3), (88, .aload_n 0, 1), (89, .invokevirtual 130, 3), (92, .aload_n 0, 1), (93, .getfield 28, 3), (96, .getfield 45, 3), (99, .getfield 133, 3), (102, .ireturn, 1)], 2, [], [], [(21, 11, 1, 9), (110, 6, 1, 0), (10, 11, 0, 9), (92, 10, 1, 0), (28, 11, 2, 9), (45, 9, 0, 9), (113, 6, 0, 9), (121, 9, 1, 9), (125, 0, 0, 0), (133, 4, 0, 0)])
theorem tk_X11_hundred : TOK RX11 vwCl gTbl cX11_hundred tb_X11_hundred := ⟨by decide +kernel, fun _ h => absurd h List.not_mem_nil, fun _ h => absurd h List.not_mem_nil, List.forall_mem_cons.mpr ⟨fk_RX11_21, List.forall_mem_cons.mpr ⟨fk_RX11_110, List.forall_mem_cons.mpr ⟨fk_RX11_10, List.forall_mem_cons.mpr ⟨fk_RX11_92, List.forall_mem_cons.mpr ⟨fk_RX11_28, List.forall_mem_cons.mpr ⟨fk_RX11_45, List.forall_mem_cons.mpr ⟨fk_RX11_113, List.forall_mem_cons.mpr ⟨fk_RX11_121, List.forall_mem_cons.mpr ⟨fk_RX11_125, List.forall_mem_cons.mpr ⟨fk_RX11_133, fun _ h => absurd h List.not_mem_nil⟩⟩⟩⟩⟩⟩⟩⟩⟩⟩⟩
theorem fk_RX12_116 : FOK RX12 vwCl gTbl (116, 12, 7, 0) := ⟨RX12, TX12, 45, tyX12, rfl, by decide, in_X12, wd_1407, tyX12_ok, nmX12, fun _ => ⟨rfl, rfl⟩⟩
def tb_X12_see : TB := ([(0, .iload_n 1, 1), (1, .aload_n 0, 1), (2, .getfield 116, 3), (5, .if_icmp .ge 16, 3), (21, .iconst (-1), 1), (22, .ireturn, 1)], 2, [], [], [(116, 12, 7, 0)])
theorem tk_X12_see : TOK RX12 vwCl gTbl cX12_see tb_X12_see := ⟨by decide +kernel, fun _ h => absurd h List.not_mem_nil, fun _ h => absurd h List.not_mem_nil, List.forall_mem_cons.mpr ⟨fk_RX12_116, fun _ h => absurd h List.not_mem_nil⟩⟩
theorem fk_RX12_119 : FOK RX12 vwCl gTbl (119, 12, 8, 0) := ⟨RX12, TX12, 45, tyX12, rfl, by decide, in_X12, wd_1408, tyX12_ok, nmX12, fun _ => ⟨rfl, rfl⟩⟩
theorem fk_RX12_126 : FOK RX12 vwCl gTbl (126, 12, 9, 0) := ⟨RX12, TX12, 45, tyX12, rfl, by decide, in_X12, wd_1409, tyX12_ok, nmX12, fun _ => ⟨rfl, rfl⟩⟩
theorem fk_RX12_129 : FOK RX12 vwCl gTbl (129, 12, 10, 0) := ⟨RX12, TX12, 45, tyX12, rfl, by decide, in_X12, wd_1410, tyX12_ok, nmX12, fun _ => ⟨rfl, rfl⟩⟩
def tb_X12_advance : TB := ([(0, .aload_n 0, 1), (1, .aload_n 0, 1), (2, .getfield 119, 3), (5, .invokevirtual 122, 3), (8, .bipush 32, 2), (10, .if_icmp .eq 16, 3), (13, .aload_n 0, 1), (14, .aload_n 0, 1), (15, .getfield 119, 3), (18, .invokevirtual 122, 3), (21, .bipush 10, 2), (23, .if_icmp .ne 16, 3), (39, .aload_n 0, 1), (40, .aload_n 0, 1), (41, .getfield 119, 3), (44, .putfield 126, 3), (47, .aload_n 0, 1), (48, .aload_n 0, 1), (49, .getfield 119, 3), (52, .invokevirtual 122, 3), (55, .istore_n 1, 1), (56, .iload_n 1, 1), (57, .iconst (-1), 1), (58, .if_icmp .ne 11, 3), (61, .aload_n 0, 1), (62, .iconst 0, 1), (63, .putfield 129, 3), (66, .goto 173, 3), (239, .return_, 1)], 2, [], [], [(119, 12, 8, 0), (126, 12, 9, 0), (129, 12, 10, 0)])
theorem tk_X12_advance : TOK RX12 vwCl gTbl cX12_advance tb_X12_advance := ⟨by decide +kernel, fun _ h => absurd h List.not_mem_nil, fun _ h => absurd h List.not_mem_nil, List.forall_mem_cons.mpr ⟨fk_RX12_119, List.forall_mem_cons.mpr ⟨fk_RX12_126, List.forall_mem_cons.mpr ⟨fk_RX12_129, fun _ h => absurd h List.not_mem_nil⟩⟩⟩⟩
def tb_X12_good : TB := ([(0, .aload_n 0, 1), (1, .getfield 150, 3), (4, .ifCond .ne 7, 3), (7, .iconst 1, 1), (8, .goto 4, 3), (12, .ireturn, 1)], 1, [], [], [(150, 12, 12, 0)])
theorem tk_X12_good : TOK RX12 vwCl gTbl cX12_good tb_X12_good := ⟨by decide +kernel, fun _ h => absurd h List.not_mem_nil, fun _ h => absurd h List.not_mem_nil, List.forall_mem_cons.mpr ⟨fk_RX12_150, fun _ h => absurd h List.not_mem_nil⟩⟩
theorem fk_RX12_31 : FOK RX12 vwCl gTbl (31, 12, 14, 9) := ⟨RX12, TX12, 45, tyX12, rfl, by decide, in_X12, wd_1414, tyX12_ok, nmX12, fun h => absurd h (by decide)⟩
def tb_X12_hundred : TB := ([(0, .aload_n 0, 1), (1, .aload_n 0, 1), (2, .getfield 113, 3), (5, .putfield 116, 3), (8, .aload_n 0, 1), (9, .iconst 0, 1), (10, .putfield 113, 3), (13, .aload_n 0, 1), (14, .iconst 0, 1), (15, .putfield 119, 3), (18, .aload_n 0, 1), (19, .iconst 0, 1), (20, .putfield 150, 3), (23, .aload_n 0, 1), (24, .iconst (-1), 1), (25, .putfield 27, 3), (28, .iconst 0, 1), (29, .istore_n 1, 1), (30, .iload_n 1, 1), (31, .bipush 124, 2), (33, .if_icmp .ge 16, 3), (36, .aload_n 0, 1), (37, .getfield 31, 3), (40, .iload_n 1, 1), (41, .iconst 0, 1), (42, .iastore, 1), (43, .iinc 1 1, 3), (46, .goto (-16), 3), (49, .aload_n 0, 1), (50, .invokevirtual 169, 3), (53, .aload_n 0, 1), (54, .invokevirtual 153, 3), (57, .ifCond .eq 17, 3), (60, .aload_n 0, 1), (61, .getfield 129, 3), (64, .ifCond .eq 10, 3), (74, .aload_n 0, 1), (75, .invokevirtual 153, 3), (78, .ifCond .ne 6, 3), (84, .iconst 0, 1), (85, .istore_n 1, 1), (86, .iload_n 1, 1), (87, .bipush 124, 2), (89, .if_icmp .ge 21, 3), (92, .aload_n 0, 1), (93, .getfield 9, 3), (96, .iload_n 1, 1), (97, .aload_n 0, 1), (98, .getfield 31, 3), (101, .iload_n 1, 1), (102, .iaload, 1), (103, .iastore, 1), (104, .iinc 1 1, 3), (107, .goto (-21), 3), (110, .aload_n 0, 1), (111, .getfield 9, 3), (114, .bipush 8, 2), (116, .iaload, 1), (117, .ireturn, 1)], 2, [], [], [(113, 12, 5, 0), (116, 12, 7, 0), (119, 12, 8, 0), (150, 12, 12, 0), (27, 12, 13, 0), (31, 12, 14, 9), (129, 12, 10, 0), (9, 12, 1, 9)])
theorem tk_X12_hundred : TOK RX12 vwCl gTbl cX12_hundred tb_X12_hundred := ⟨by decide +kernel, fun _ h => absurd h List.not_mem_nil, fun _ h => absurd h List.not_mem_nil, List.forall_mem_cons.mpr ⟨fk_RX12_113, List.forall_mem_cons.mpr ⟨fk_RX12_116, List.forall_mem_cons.mpr ⟨fk_RX12_119, List.forall_mem_cons.mpr ⟨fk_RX12_150, List.forall_mem_cons.mpr ⟨fk_RX12_27, List.forall_mem_cons.mpr ⟨fk_RX12_31, List.forall_mem_cons.mpr ⟨fk_RX12_129, List.forall_mem_cons.mpr ⟨fk_RX12_9, fun _ h => absurd h List.not_mem_nil⟩⟩⟩⟩⟩⟩⟩⟩⟩
def tb_X11_end : TB := ([(0, .iload_n 1, 1), (1, .ifCond .lt 14, 3), (4, .iload_n 1, 1), (5, .aload_n 0, 1), (6, .getfield 10, 3), (9, .getfield 92, 3), (12, .if_icmp .le 5, 3), (15, .iconst (-1), 1), (16, .ireturn, 1), (17, .aload_n 0, 1), (18, .getfield 10, 3), (21, .iload_n 1, 1), (22, .putfield 92, 3), (25, .iload_n 1, 1), (26, .ireturn, 1)], 2, [], [], [(10, 11, 0, 9), (92, 10, 1, 0)])
theorem tk_X11_end : TOK RX11 vwCl gTbl cX11_end tb_X11_end := ⟨by decide +kernel, fun _ h => absurd h List.not_mem_nil, fun _ h => absurd h List.not_mem_nil, List.forall_mem_cons.mpr ⟨fk_RX11_10, List.forall_mem_cons.mpr ⟨fk_RX11_92, fun _ h => absurd h List.not_mem_nil⟩⟩⟩
def tb_X12_end : TB := ([(0, .iload_n 1, 1), (1, .i2l, 1), (2, .lconst 0, 1), (3, .aload_n 0, 1), (4, .getfield 113, 3), (7, .i2l, 1), (8, .invokestatic 91, 3), (11, .ifCond .ne 5, 3), (14, .iconst (-1), 1), (15, .ireturn, 1), (16, .aload_n 0, 1), (17, .iload_n 1, 1), (18, .putfield 113, 3), (21, .iload_n 1, 1), (22, .ireturn, 1)], 2, [], [], [(113, 12, 5, 0)])
theorem tk_X12_end : TOK RX12 vwCl gTbl cX12_end tb_X12_end := ⟨by decide +kernel, fun _ h => absurd h List.not_mem_nil, fun _ h => absurd h List.not_mem_nil, List.forall_mem_cons.mpr ⟨fk_RX12_113, fun _ h => absurd h List.not_mem_nil⟩⟩
theorem fk_RX10_9 : FOK RX10 vwCl gTbl (9, 10, 0, 9) := ⟨RX10, TX10, 6, tyX10, rfl, by decide, in_X10, wd_159, tyX10_ok, nmX10, fun h => absurd h (by decide)⟩
def tb_X10_append : TB := ([(0, .bipush 24, 2), (2, .istore_n 2, 1), (3, .iload_n 2, 1), (4, .ifCond .lt 42, 3), (7, .aload_n 0, 1), (8, .getfield 15, 3), (11, .sipush 700, 3), (14, .if_icmp .ge 32, 3), (17, .aload_n 0, 1), (18, .getfield 9, 3), (21, .aload_n 0, 1), (22, .getfield 15, 3), (25, .iload_n 1, 1), (26, .iload_n 2, 1), (27, .iushr, 1), (28, .i2b, 1), (29, .bastore, 1), (30, .aload_n 0, 1), (31, .dup, 1), (32, .getfield 15, 3), (35, .iconst 1, 1), (36, .iadd, 1), (37, .putfield 15, 3), (40, .iinc 2 (-8), 3), (43, .goto (-40), 3), (46, .return_, 1)], 3, [], [], [(15, 10, 1, 0), (9, 10, 0, 9)])
theorem tk_X10_append : TOK RX10 vwCl gTbl cX10_append tb_X10_append := ⟨by decide +kernel, fun _ h => absurd h List.not_mem_nil, fun _ h => absurd h List.not_mem_nil, List.forall_mem_cons.mpr ⟨fk_RX10_15, List.forall_mem_cons.mpr ⟨fk_RX10_9, fun _ h => absurd h List.not_mem_nil⟩⟩⟩
def tb_X11_feed : TB := ([(0, .aload_n 0, 1), (1, .getfield 10, 3), (4, .getfield 92, 3), (7, .sipush 680, 3), (10, .if_icmp .le 5, 3), (15, .aload_n 0, 1), (16, .getfield 10, 3), (19, .iload_n 1, 1), (20, .invokevirtual 96, 3), (23, .aload_n 0, 1), (24, .getfield 10, 3), (27, .iload_n 2, 1), (28, .invokevirtual 96, 3), (31, .aload_n 0, 1), (32, .getfield 10, 3), (35, .iload_n 3, 1), (36, .invokevirtual 96, 3), (39, .aload_n 0, 1), (40, .getfield 10, 3), (43, .iload 4, 2), (45, .invokevirtual 96, 3), (48, .aload_n 0, 1), (49, .getfield 10, 3), (52, .iload 5, 2), (54, .invokevirtual 96, 3), (57, .aload_n 0, 1), (58, .getfield 10, 3), (61, .getfield 92, 3), (64, .ireturn, 1)], 6, [], [], [(10, 11, 0, 9), (92, 10, 1, 0)])
theorem tk_X11_feed : TOK RX11 vwCl gTbl cX11_feed tb_X11_feed := ⟨by decide +kernel, fun _ h => absurd h List.not_mem_nil, fun _ h => absurd h List.not_mem_nil, List.forall_mem_cons.mpr ⟨fk_RX11_10, List.forall_mem_cons.mpr ⟨fk_RX11_92, fun _ h => absurd h List.not_mem_nil⟩⟩⟩
theorem fk_RX12_24 : FOK RX12 vwCl gTbl (24, 12, 6, 9) := ⟨RX12, TX12, 45, tyX12, rfl, by decide, in_X12, wd_1406, tyX12_ok, nmX12, fun h => absurd h (by decide)⟩
theorem fk_RX12_20 : FOK RX12 vwCl gTbl (20, 12, 4, 9) := ⟨RX12, TX12, 45, tyX12, rfl, by decide, in_X12, wd_1404, tyX12_ok, nmX12, fun h => absurd h (by decide)⟩
def tb_X12_feed : TB := ([(0, .aload_n 0, 1), (1, .getfield 113, 3), (4, .bipush 20, 2), (6, .iadd, 1), (7, .sipush 700, 3), (10, .if_icmp .le 5, 3), (15, .aload_n 0, 1), (16, .getfield 24, 3), (19, .iconst 0, 1), (20, .iload_n 1, 1), (21, .iastore, 1), (22, .aload_n 0, 1), (23, .getfield 24, 3), (26, .iconst 1, 1), (27, .iload_n 2, 1), (28, .iastore, 1), (29, .aload_n 0, 1), (30, .getfield 24, 3), (33, .iconst 2, 1), (34, .iload_n 3, 1), (35, .iastore, 1), (36, .aload_n 0, 1), (37, .getfield 24, 3), (40, .iconst 3, 1), (41, .iload 4, 2), (43, .iastore, 1), (44, .aload_n 0, 1), (45, .getfield 24, 3), (48, .iconst 4, 1), (49, .iload 5, 2), (51, .iastore, 1), (52, .iconst 0, 1), (53, .istore 6, 2), (55, .iload 6, 2), (57, .bipush 20, 2), (59, .if_icmp .ge 42, 3), (62, .aload_n 0, 1), (63, .getfield 20, 3), (66, .aload_n 0, 1), (67, .getfield 113, 3), (70, .iload 6, 2), (72, .iadd, 1), (73, .aload_n 0, 1), (74, .getfield 24, 3), (77, .iload 6, 2), (79, .iconst 4, 1), (80, .idiv, 1), (81, .iaload, 1), (82, .bipush 24, 2), (84, .bipush 8, 2), (86, .iload 6, 2), (88, .iconst 4, 1), (89, .irem, 1), (90, .imul, 1), (91, .isub, 1), (92, .ishr, 1), (93, .i2b, 1), (94, .bastore, 1), (95, .iinc 6 1, 3), (98, .goto (-43), 3), (101, .aload_n 0, 1), (102, .dup, 1), (103, .getfield 113, 3), (106, .bipush 20, 2), (108, .iadd, 1), (109, .putfield 113, 3), (112, .aload_n 0, 1), (113, .getfield 113, 3), (116, .ireturn, 1)], 7, [], [], [(113, 12, 5, 0), (24, 12, 6, 9), (20, 12, 4, 9)])
theorem tk_X12_feed : TOK RX12 vwCl gTbl cX12_feed tb_X12_feed := ⟨by decide +kernel, fun _ h => absurd h List.not_mem_nil, fun _ h => absurd h List.not_mem_nil, List.forall_mem_cons.mpr ⟨fk_RX12_113, List.forall_mem_cons.mpr ⟨fk_RX12_24, List.forall_mem_cons.mpr ⟨fk_RX12_20, fun _ h => absurd h List.not_mem_nil⟩⟩⟩⟩
def tb_L_law : TB := ([(16, .iconst 0, 1), (17, .istore_n 3, 1), (18, .iload_n 3, 1), (19, .aload_n 0, 1), (20, .arraylength, 1), (21, .bipush 6, 2), (23, .isub, 1), (24, .if_icmp .gt 2256, 3), (27, .aload_n 0, 1), (28, .iload_n 3, 1), (29, .iaload, 1), (30, .bipush 127, 2), (32, .iand, 1), (33, .tableswitch 2241 0 71 #[303, 366, 389, 402, 425, 458, 481, 514, 537, 570, 613, 646, 669, 692, 715, 748, 761, 774, 797, 820, 833, 866, 899, 932, 965, 998, 1031, 1054, 1077, 1100, 1123, 1136, 1149, 1172, 1195, 1208, 1231, 1244, 1267, 1290, 1303, 1326, 1349, 1372, 1395, 1408, 1431, 1444, 1457, 1480, 1493, 1506, 1519, 1552, 1585, 1618, 1651, 1704, 1758, 1792, 1825, 1858, 1871, 1884, 1917, 1960, 1993, 2016, 2039, 2062, 2105, 2178], 303), (336, .aload_n 1, 1), (337, .aload_n 0, 1), (338, .iload_n 3, 1), (339, .iconst 1, 1), (340, .iadd, 1), (341, .iaload, 1), (342, .aload_n 0, 1), (343, .iload_n 3, 1), (344, .iconst 2, 1), (345, .iadd, 1), (346, .iaload, 1), (347, .aload_n 0, 1), (348, .iload_n 3, 1), (349, .iconst 3, 1), (350, .iadd, 1), (351, .iaload, 1), (352, .aload_n 0, 1), (353, .iload_n 3, 1), (354, .iconst 4, 1), (355, .iadd, 1), (356, .iaload, 1), (357, .aload_n 0, 1), (358, .iload_n 3, 1), (359, .iconst 5, 1), (360, .iadd, 1), (361, .iaload, 1), (362, .invokevirtual 13, 3), (365, .aload_n 2, 1), (366, .aload_n 0, 1), (367, .iload_n 3, 1), (368, .iconst 1, 1), (369, .iadd, 1), (370, .iaload, 1), (371, .aload_n 0, 1), (372, .iload_n 3, 1), (373, .iconst 2, 1), (374, .iadd, 1), (375, .iaload, 1), (376, .aload_n 0, 1), (377, .iload_n 3, 1), (378, .iconst 3, 1), (379, .iadd, 1), (380, .iaload, 1), (381, .aload_n 0, 1), (382, .iload_n 3, 1), (383, .iconst 4, 1), (384, .iadd, 1), (385, .iaload, 1), (386, .aload_n 0, 1), (387, .iload_n 3, 1), (388, .iconst 5, 1), (389, .iadd, 1), (390, .iaload, 1), (391, .invokevirtual 17, 3), (394, .if_icmp .eq 1880, 3), (399, .aload_n 1, 1), (400, .aload_n 0, 1), (401, .iload_n 3, 1), (402, .iconst 1, 1), (403, .iadd, 1), (404, .iaload, 1), (405, .invokevirtual 18, 3), (408, .aload_n 2, 1), (409, .aload_n 0, 1), (410, .iload_n 3, 1), (411, .iconst 1, 1), (412, .iadd, 1), (413, .iaload, 1), (414, .invokevirtual 22, 3), (417, .if_icmp .eq 1857, 3), (422, .aload_n 1, 1), (423, .invokevirtual 23, 3), (426, .aload_n 2, 1), (427, .invokevirtual 27, 3), (430, .if_icmp .eq 1844, 3), (435, .aload_n 1, 1), (436, .aload_n 0, 1), (437, .iload_n 3, 1), (438, .iconst 1, 1), (439, .iadd, 1), (440, .iaload, 1), (441, .invokevirtual 28, 3), (444, .aload_n 2, 1), (445, .aload_n 0, 1), (446, .iload_n 3, 1), (447, .iconst 1, 1), (448, .iadd, 1), (449, .iaload, 1), (450, .invokevirtual 31, 3), (453, .if_icmp .eq 1821, 3), (458, .aload_n 1, 1), (459, .aload_n 0, 1), (460, .iload_n 3, 1), (461, .iconst 1, 1), (462, .iadd, 1), (463, .iaload, 1), (464, .aload_n 0, 1), (465, .iload_n 3, 1), (466, .iconst 2, 1), (467, .iadd, 1), (468, .iaload, 1), (469, .invokevirtual 32, 3), (472, .aload_n 2, 1), (473, .aload_n 0, 1), (474, .iload_n 3, 1), (475, .iconst 1, 1), (476, .iadd, 1), (477, .iaload, 1), (478, .aload_n 0, 1), (479, .iload_n 3, 1), (480, .iconst 2, 1), (481, .iadd, 1), (482, .iaload, 1), (483, .invokevirtual 36, 3), (486, .if_icmp .eq 1788, 3), (491, .aload_n 1, 1), (492, .aload_n 0, 1), (493, .iload_n 3, 1), (494, .iconst 1, 1), (495, .iadd, 1), (496, .iaload, 1), (497, .invokevirtual 37, 3), (500, .aload_n 2, 1), (501, .aload_n 0, 1), (502, .iload_n 3, 1), (503, .iconst 1, 1), (504, .iadd, 1), (505, .iaload, 1), (506, .invokevirtual 40, 3), (509, .if_icmp .eq 1765, 3), (514, .aload_n 1, 1), (515, .aload_n 0, 1), (516, .iload_n 3, 1), (517, .iconst 1, 1), (518, .iadd, 1), (519, .iaload, 1), (520, .aload_n 0, 1), (521, .iload_n 3, 1), (522, .iconst 2, 1), (523, .iadd, 1), (524, .iaload, 1), (525, .invokevirtual 41, 3), (528, .aload_n 2, 1), (529, .aload_n 0, 1), (530, .iload_n 3, 1), (531, .iconst 1, 1), (532, .iadd, 1), (533, .iaload, 1), (534, .aload_n 0, 1), (535, .iload_n 3, 1), (536, .iconst 2, 1), (537, .iadd, 1), (538, .iaload, 1), (539, .invokevirtual 44, 3), (542, .if_icmp .eq 1732, 3), (547, .aload_n 1, 1), (548, .aload_n 0, 1), (549, .iload_n 3, 1), (550, .iconst 1, 1), (551, .iadd, 1), (552, .iaload, 1), (553, .invokevirtual 45, 3), (556, .aload_n 2, 1), (557, .aload_n 0, 1), (558, .iload_n 3, 1), (559, .iconst 1, 1), (560, .iadd, 1), (561, .iaload, 1), (562, .invokevirtual 48, 3), (565, .if_icmp .eq 1709, 3), (570, .aload_n 1, 1), (571, .aload_n 0, 1), (572, .iload_n 3, 1), (573, .iconst 1, 1), (574, .iadd, 1), (575, .iaload, 1), (576, .aload_n 0, 1), (577, .iload_n 3, 1), (578, .iconst 2, 1), (579, .iadd, 1), (580, .iaload, 1), (581, .invokevirtual 49, 3), (584, .aload_n 2, 1), (585, .aload_n 0, 1), (586, .iload_n 3, 1), (587, .iconst 1, 1), (588, .iadd, 1), (589, .iaload, 1), (590, .aload_n 0, 1), (591, .iload_n 3, 1), (592, .iconst 2, 1), (593, .iadd, 1), (594, .iaload, 1), (595, .invokevirtual 52, 3), (598, .if_icmp .eq 1676, 3), (603, .aload_n 1, 1), (604, .aload_n 0, 1), (605, .iload_n 3, 1), (606, .iconst 1, 1), (607, .iadd, 1), (608, .iaload, 1), (609, .aload_n 0, 1), (610, .iload_n 3, 1), (611, .iconst 2, 1), (612, .iadd, 1), (613, .iaload, 1), (614, .aload_n 0, 1), (615, .iload_n 3, 1), (616, .iconst 3, 1), (617, .iadd, 1), (618, .iaload, 1), (619, .invokevirtual 53, 3), (622, .aload_n 2, 1), (623, .aload_n 0, 1), (624, .iload_n 3, 1), (625, .iconst 1, 1), (626, .iadd, 1), (627, .iaload, 1), (628, .aload_n 0, 1), (629, .iload_n 3, 1), (630, .iconst 2, 1), (631, .iadd, 1), (632, .iaload, 1), (633, .aload_n 0, 1), (634, .iload_n 3, 1), (635, .iconst 3, 1), (636, .iadd, 1), (637, .iaload, 1), (638, .invokevirtual 57, 3), (641, .if_icmp .eq 1633, 3), (646, .aload_n 1, 1), (647, .aload_n 0, 1), (648, .iload_n 3, 1), (649, .iconst 1, 1), (650, .iadd, 1), (651, .iaload, 1), (652, .aload_n 0, 1), (653, .iload_n 3, 1), (654, .iconst 2, 1), (655, .iadd, 1), (656, .iaload, 1), (657, .invokevirtual 58, 3), (660, .aload_n 2, 1), (661, .aload_n 0, 1), (662, .iload_n 3, 1), (663, .iconst 1, 1), (664, .iadd, 1), (665, .iaload, 1), (666, .aload_n 0, 1), (667, .iload_n 3, 1), (668, .iconst 2, 1), (669, .iadd, 1), (670, .iaload, 1), (671, .invokevirtual 61, 3), (674, .if_icmp .eq 1600, 3), (679, .aload_n 1, 1), (680, .aload_n 0, 1), (681, .iload_n 3, 1), (682, .iconst 1, 1), (683, .iadd, 1), (684, .iaload, 1), (685, .invokevirtual 62, 3), (688, .aload_n 2, 1), (689, .aload_n 0, 1), (690, .iload_n 3, 1), (691, .iconst 1, 1), (692, .iadd, 1), (693, .iaload, 1), (694, .invokevirtual 65, 3), (697, .if_icmp .eq 1577, 3), (702, .aload_n 1, 1), (703, .aload_n 0, 1), (704, .iload_n 3, 1), (705, .iconst 1, 1), (706, .iadd, 1), (707, .iaload, 1), (708, .invokevirtual 66, 3), (711, .aload_n 2, 1), (712, .aload_n 0, 1), (713, .iload_n 3, 1), (714, .iconst 1, 1), (715, .iadd, 1), (716, .iaload, 1), (717, .invokevirtual 69, 3), (720, .if_icmp .eq 1554, 3), (725, .aload_n 1, 1), (726, .aload_n 0, 1), (727, .iload_n 3, 1), (728, .iconst 1, 1), (729, .iadd, 1), (730, .iaload, 1), (731, .invokevirtual 70, 3), (734, .aload_n 2, 1), (735, .aload_n 0, 1), (736, .iload_n 3, 1), (737, .iconst 1, 1), (738, .iadd, 1), (739, .iaload, 1), (740, .invokevirtual 73, 3), (743, .if_icmp .eq 1531, 3), (748, .aload_n 1, 1), (749, .aload_n 0, 1), (750, .iload_n 3, 1), (751, .iconst 1, 1), (752, .iadd, 1), (753, .iaload, 1), (754, .aload_n 0, 1), (755, .iload_n 3, 1), (756, .iconst 2, 1), (757, .iadd, 1), (758, .iaload, 1), (759, .invokevirtual 74, 3), (762, .aload_n 2, 1), (763, .aload_n 0, 1), (764, .iload_n 3, 1), (765, .iconst 1, 1), (766, .iadd, 1), (767, .iaload, 1), (768, .aload_n 0, 1), (769, .iload_n 3, 1), (770, .iconst 2, 1), (771, .iadd, 1), (772, .iaload, 1), (773, .invokevirtual 77, 3), (776, .if_icmp .eq 1498, 3), (781, .aload_n 1, 1), (782, .invokevirtual 78, 3), (785, .aload_n 2, 1), (786, .invokevirtual 81, 3), (789, .if_icmp .eq 1485, 3), (794, .aload_n 1, 1), (795, .invokevirtual 82, 3), (798, .aload_n 2, 1), (799, .invokevirtual 85, 3), (802, .if_icmp .eq 1472, 3), (807, .aload_n 1, 1), (808, .aload_n 0, 1), (809, .iload_n 3, 1), (810, .iconst 1, 1), (811, .iadd, 1), (812, .iaload, 1), (813, .invokevirtual 86, 3), (816, .aload_n 2, 1), (817, .aload_n 0, 1), (818, .iload_n 3, 1), (819, .iconst 1, 1), (820, .iadd, 1), (821, .iaload, 1), (822, .invokevirtual 89, 3), (825, .if_icmp .eq 1449, 3), (830, .aload_n 1, 1), (831, .aload_n 0, 1), (832, .iload_n 3, 1), (833, .iconst 1, 1), (834, .iadd, 1), (835, .iaload, 1), (836, .invokevirtual 90, 3), (839, .aload_n 2, 1), (840, .aload_n 0, 1), (841, .iload_n 3, 1), (842, .iconst 1, 1), (843, .iadd, 1), (844, .iaload, 1), (845, .invokevirtual 93, 3), (848, .if_icmp .eq 1426, 3), (853, .aload_n 1, 1), (854, .invokevirtual 94, 3), (857, .aload_n 2, 1), (858, .invokevirtual 97, 3), (861, .if_icmp .eq 1413, 3), (866, .aload_n 1, 1), (867, .aload_n 0, 1), (868, .iload_n 3, 1), (869, .iconst 1, 1), (870, .iadd, 1), (871, .iaload, 1), (872, .aload_n 0, 1), (873, .iload_n 3, 1), (874, .iconst 2, 1), (875, .iadd, 1), (876, .iaload, 1), (877, .invokevirtual 98, 3), (880, .aload_n 2, 1), (881, .aload_n 0, 1), (882, .iload_n 3, 1), (883, .iconst 1, 1), (884, .iadd, 1), (885, .iaload, 1), (886, .aload_n 0, 1), (887, .iload_n 3, 1), (888, .iconst 2, 1), (889, .iadd, 1), (890, .iaload, 1), (891, .invokevirtual 101, 3), (894, .if_icmp .eq 1380, 3), (899, .aload_n 1, 1), (900, .aload_n 0, 1), (901, .iload_n 3, 1), (902, .iconst 1, 1), (903, .iadd, 1), (904, .iaload, 1), (905, .aload_n 0, 1), (906, .iload_n 3, 1), (907, .iconst 2, 1), (908, .iadd, 1), (909, .iaload, 1), (910, .invokevirtual 102, 3), (913, .aload_n 2, 1), (914, .aload_n 0, 1), (915, .iload_n 3, 1), (916, .iconst 1, 1), (917, .iadd, 1), (918, .iaload, 1), (919, .aload_n 0, 1), (920, .iload_n 3, 1), (921, .iconst 2, 1), (922, .iadd, 1), (923, .iaload, 1), (924, .invokevirtual 105, 3), (927, .if_icmp .eq 1347, 3), (932, .aload_n 1, 1), (933, .aload_n 0, 1), (934, .iload_n 3, 1), (935, .iconst 1, 1), (936, .iadd, 1), (937, .iaload, 1), (938, .aload_n 0, 1), (939, .iload_n 3, 1), (940, .iconst 2, 1), (941, .iadd, 1), (942, .iaload, 1), (943, .invokevirtual 106, 3), (946, .aload_n 2, 1), (947, .aload_n 0, 1), (948, .iload_n 3, 1), (949, .iconst 1, 1), (950, .iadd, 1), (951, .iaload, 1), (952, .aload_n 0, 1), (953, .iload_n 3, 1), (954, .iconst 2, 1), (955, .iadd, 1), (956, .iaload, 1), (957, .invokevirtual 109, 3), (960, .if_icmp .eq 1314, 3), (965, .aload_n 1, 1), (966, .aload_n 0, 1), (967, .iload_n 3, 1), (968, .iconst 1, 1), (969, .iadd, 1), (970, .iaload, 1), (971, .aload_n 0, 1), (972, .iload_n 3, 1), (973, .iconst 2, 1), (974, .iadd, 1), (975, .iaload, 1), (976, .invokevirtual 110, 3), (979, .aload_n 2, 1), (980, .aload_n 0, 1), (981, .iload_n 3, 1), (982, .iconst 1, 1), (983, .iadd, 1), (984, .iaload, 1), (985, .aload_n 0, 1), (986, .iload_n 3, 1), (987, .iconst 2, 1), (988, .iadd, 1), (989, .iaload, 1), (990, .invokevirtual 113, 3), (993, .if_icmp .eq 1281, 3), (998, .aload_n 1, 1), (999, .aload_n 0, 1), (1000, .iload_n 3, 1), (1001, .iconst 1, 1), (1002, .iadd, 1), (1003, .iaload, 1), (1004, .aload_n 0, 1), (1005, .iload_n 3, 1), (1006, .iconst 2, 1), (1007, .iadd, 1), (1008, .iaload, 1), (1009, .invokevirtual 114, 3), (1012, .aload_n 2, 1), (1013, .aload_n 0, 1), (1014, .iload_n 3, 1), (1015, .iconst 1, 1), (1016, .iadd, 1), (1017, .iaload, 1), (1018, .aload_n 0, 1), (1019, .iload_n 3, 1), (1020, .iconst 2, 1), (1021, .iadd, 1), (1022, .iaload, 1), (1023, .invokevirtual 117, 3), (1026, .if_icmp .eq 1248, 3), (1031, .aload_n 1, 1), (1032, .aload_n 0, 1), (1033, .iload_n 3, 1), (1034, .iconst 1, 1), (1035, .iadd, 1), (1036, .iaload, 1), (1037, .aload_n 0, 1), (1038, .iload_n 3, 1), (1039, .iconst 2, 1), (1040, .iadd, 1), (1041, .iaload, 1), (1042, .invokevirtual 118, 3), (1045, .aload_n 2, 1), (1046, .aload_n 0, 1), (1047, .iload_n 3, 1), (1048, .iconst 1, 1), (1049, .iadd, 1), (1050, .iaload, 1), (1051, .aload_n 0, 1), (1052, .iload_n 3, 1), (1053, .iconst 2, 1), (1054, .iadd, 1), (1055, .iaload, 1), (1056, .invokevirtual 121, 3), (1059, .if_icmp .eq 1215, 3), (1064, .aload_n 1, 1), (1065, .aload_n 0, 1), (1066, .iload_n 3, 1), (1067, .iconst 1, 1), (1068, .iadd, 1), (1069, .iaload, 1), (1070, .invokevirtual 122, 3), (1073, .aload_n 2, 1), (1074, .aload_n 0, 1), (1075, .iload_n 3, 1), (1076, .iconst 1, 1), (1077, .iadd, 1), (1078, .iaload, 1), (1079, .invokevirtual 125, 3), (1082, .if_icmp .eq 1192, 3), (1087, .aload_n 1, 1), (1088, .aload_n 0, 1), (1089, .iload_n 3, 1), (1090, .iconst 1, 1), (1091, .iadd, 1), (1092, .iaload, 1), (1093, .invokevirtual 126, 3), (1096, .aload_n 2, 1), (1097, .aload_n 0, 1), (1098, .iload_n 3, 1), (1099, .iconst 1, 1), (1100, .iadd, 1), (1101, .iaload, 1), (1102, .invokevirtual 129, 3), (1105, .if_icmp .eq 1169, 3), (1110, .aload_n 1, 1), (1111, .aload_n 0, 1), (1112, .iload_n 3, 1), (1113, .iconst 1, 1), (1114, .iadd, 1), (1115, .iaload, 1), (1116, .invokevirtual 130, 3), (1119, .aload_n 2, 1), (1120, .aload_n 0, 1), (1121, .iload_n 3, 1), (1122, .iconst 1, 1), (1123, .iadd, 1), (1124, .iaload, 1), (1125, .invokevirtual 133, 3), (1128, .if_icmp .eq 1146, 3), (1133, .aload_n 1, 1), (1134, .aload_n 0, 1), (1135, .iload_n 3, 1), (1136, .iconst 1, 1), (1137, .iadd, 1), (1138, .iaload, 1), (1139, .invokevirtual 134, 3), (1142, .aload_n 2, 1), (1143, .aload_n 0, 1), (1144, .iload_n 3, 1), (1145, .iconst 1, 1), (1146, .iadd, 1), (1147, .iaload, 1), (1148, .invokevirtual 137, 3), (1151, .if_icmp .eq 1123, 3), (1156, .aload_n 1, 1), (1157, .invokevirtual 138, 3), (1160, .aload_n 2, 1), (1161, .invokevirtual 141, 3), (1164, .if_icmp .eq 1110, 3), (1169, .aload_n 1, 1), (1170, .invokevirtual 142, 3), (1173, .aload_n 2, 1), (1174, .invokevirtual 145, 3), (1177, .if_icmp .eq 1097, 3), (1182, .aload_n 1, 1), (1183, .aload_n 0, 1), (1184, .iload_n 3, 1), (1185, .iconst 1, 1), (1186, .iadd, 1), (1187, .iaload, 1), (1188, .invokevirtual 146, 3), (1191, .aload_n 2, 1), (1192, .aload_n 0, 1), (1193, .iload_n 3, 1), (1194, .iconst 1, 1), (1195, .iadd, 1), (1196, .iaload, 1), (1197, .invokevirtual 149, 3), (1200, .if_icmp .eq 1074, 3), (1205, .aload_n 1, 1), (1206, .aload_n 0, 1), (1207, .iload_n 3, 1), (1208, .iconst 1, 1), (1209, .iadd, 1), (1210, .iaload, 1), (1211, .invokevirtual 150, 3), (1214, .aload_n 2, 1), (1215, .aload_n 0, 1), (1216, .iload_n 3, 1), (1217, .iconst 1, 1), (1218, .iadd, 1), (1219, .iaload, 1), (1220, .invokevirtual 153, 3), (1223, .if_icmp .eq 1051, 3), (1228, .aload_n 1, 1), (1229, .invokevirtual 154, 3), (1232, .aload_n 2, 1), (1233, .invokevirtual 157, 3), (1236, .if_icmp .eq 1038, 3), (1241, .aload_n 1, 1), (1242, .aload_n 0, 1), (1243, .iload_n 3, 1), (1244, .iconst 1, 1), (1245, .iadd, 1), (1246, .iaload, 1), (1247, .invokevirtual 158, 3), (1250, .aload_n 2, 1), (1251, .aload_n 0, 1), (1252, .iload_n 3, 1), (1253, .iconst 1, 1), (1254, .iadd, 1), (1255, .iaload, 1), (1256, .invokevirtual 161, 3), (1259, .if_icmp .eq 1015, 3), (1264, .aload_n 1, 1), (1265, .invokevirtual 162, 3), (1268, .aload_n 2, 1), (1269, .invokevirtual 165, 3), (1272, .if_icmp .eq 1002, 3), (1277, .aload_n 1, 1), (1278, .aload_n 0, 1), (1279, .iload_n 3, 1), (1280, .iconst 1, 1), (1281, .iadd, 1), (1282, .iaload, 1), (1283, .invokevirtual 166, 3), (1286, .aload_n 2, 1), (1287, .aload_n 0, 1), (1288, .iload_n 3, 1), (1289, .iconst 1, 1), (1290, .iadd, 1), (1291, .iaload, 1), (1292, .invokevirtual 169, 3), (1295, .if_icmp .eq 979, 3), (1300, .aload_n 1, 1), (1301, .aload_n 0, 1), (1302, .iload_n 3, 1), (1303, .iconst 1, 1), (1304, .iadd, 1), (1305, .iaload, 1), (1306, .invokevirtual 170, 3), (1309, .aload_n 2, 1), (1310, .aload_n 0, 1), (1311, .iload_n 3, 1), (1312, .iconst 1, 1), (1313, .iadd, 1), (1314, .iaload, 1), (1315, .invokevirtual 173, 3), (1318, .if_icmp .eq 956, 3), (1323, .aload_n 1, 1), (1324, .invokevirtual 174, 3), (1327, .aload_n 2, 1), (1328, .invokevirtual 177, 3), (1331, .if_icmp .eq 943, 3), (1336, .aload_n 1, 1), (1337, .aload_n 0, 1), (1338, .iload_n 3, 1), (1339, .iconst 1, 1), (1340, .iadd, 1), (1341, .iaload, 1), (1342, .invokevirtual 178, 3), (1345, .aload_n 2, 1), (1346, .aload_n 0, 1), (1347, .iload_n 3, 1), (1348, .iconst 1, 1), (1349, .iadd, 1), (1350, .iaload, 1), (1351, .invokevirtual 181, 3), (1354, .if_icmp .eq 920, 3), (1359, .aload_n 1, 1), (1360, .aload_n 0, 1), (1361, .iload_n 3, 1), (1362, .iconst 1, 1), (1363, .iadd, 1), (1364, .iaload, 1), (1365, .invokevirtual 182, 3), (1368, .aload_n 2, 1), (1369, .aload_n 0, 1), (1370, .iload_n 3, 1), (1371, .iconst 1, 1), (1372, .iadd, 1), (1373, .iaload, 1), (1374, .invokevirtual 185, 3), (1377, .if_icmp .eq 897, 3), (1382, .aload_n 1, 1), (1383, .aload_n 0, 1), (1384, .iload_n 3, 1), (1385, .iconst 1, 1), (1386, .iadd, 1), (1387, .iaload, 1), (1388, .invokevirtual 186, 3), (1391, .aload_n 2, 1), (1392, .aload_n 0, 1), (1393, .iload_n 3, 1), (1394, .iconst 1, 1), (1395, .iadd, 1), (1396, .iaload, 1), (1397, .invokevirtual 189, 3), (1400, .if_icmp .eq 874, 3), (1405, .aload_n 1, 1), (1406, .aload_n 0, 1), (1407, .iload_n 3, 1), (1408, .iconst 1, 1), (1409, .iadd, 1), (1410, .iaload, 1), (1411, .invokevirtual 190, 3), (1414, .aload_n 2, 1), (1415, .aload_n 0, 1), (1416, .iload_n 3, 1), (1417, .iconst 1, 1), (1418, .iadd, 1), (1419, .iaload, 1), (1420, .invokevirtual 193, 3), (1423, .if_icmp .eq 851, 3), (1428, .aload_n 1, 1), (1429, .invokevirtual 194, 3), (1432, .aload_n 2, 1), (1433, .invokevirtual 197, 3), (1436, .if_icmp .eq 838, 3), (1441, .aload_n 1, 1), (1442, .aload_n 0, 1), (1443, .iload_n 3, 1), (1444, .iconst 1, 1), (1445, .iadd, 1), (1446, .iaload, 1), (1447, .invokevirtual 198, 3), (1450, .aload_n 2, 1), (1451, .aload_n 0, 1), (1452, .iload_n 3, 1), (1453, .iconst 1, 1), (1454, .iadd, 1), (1455, .iaload, 1), (1456, .invokevirtual 201, 3), (1459, .if_icmp .eq 815, 3), (1464, .aload_n 1, 1), (1465, .invokevirtual 202, 3), (1468, .aload_n 2, 1), (1469, .invokevirtual 205, 3), (1472, .if_icmp .eq 802, 3), (1477, .aload_n 1, 1), (1478, .invokevirtual 206, 3), (1481, .aload_n 2, 1), (1482, .invokevirtual 209, 3), (1485, .if_icmp .eq 789, 3), (1490, .aload_n 1, 1), (1491, .aload_n 0, 1), (1492, .iload_n 3, 1), (1493, .iconst 1, 1), (1494, .iadd, 1), (1495, .iaload, 1), (1496, .invokevirtual 210, 3), (1499, .aload_n 2, 1), (1500, .aload_n 0, 1), (1501, .iload_n 3, 1), (1502, .iconst 1, 1), (1503, .iadd, 1), (1504, .iaload, 1), (1505, .invokevirtual 213, 3), (1508, .if_icmp .eq 766, 3), (1513, .aload_n 1, 1), (1514, .invokevirtual 214, 3), (1517, .aload_n 2, 1), (1518, .invokevirtual 217, 3), (1521, .if_icmp .eq 753, 3), (1526, .aload_n 1, 1), (1527, .invokevirtual 218, 3), (1530, .aload_n 2, 1), (1531, .invokevirtual 221, 3), (1534, .if_icmp .eq 740, 3), (1539, .aload_n 1, 1), (1540, .invokevirtual 222, 3), (1543, .aload_n 2, 1), (1544, .invokevirtual 225, 3), (1547, .if_icmp .eq 727, 3), (1552, .aload_n 1, 1), (1553, .aload_n 0, 1), (1554, .iload_n 3, 1), (1555, .iconst 1, 1), (1556, .iadd, 1), (1557, .iaload, 1), (1558, .aload_n 0, 1), (1559, .iload_n 3, 1), (1560, .iconst 2, 1), (1561, .iadd, 1), (1562, .iaload, 1), (1563, .invokevirtual 226, 3), (1566, .aload_n 2, 1), (1567, .aload_n 0, 1), (1568, .iload_n 3, 1), (1569, .iconst 1, 1), (1570, .iadd, 1), (1571, .iaload, 1), (1572, .aload_n 0, 1), (1573, .iload_n 3, 1), (1574, .iconst 2, 1), (1575, .iadd, 1), (1576, .iaload, 1), (1577, .invokevirtual 229, 3), (1580, .if_icmp .eq 694, 3), (1585, .aload_n 1, 1), (1586, .aload_n 0, 1), (1587, .iload_n 3, 1), (1588, .iconst 1, 1), (1589, .iadd, 1), (1590, .iaload, 1), (1591, .aload_n 0, 1), (1592, .iload_n 3, 1), (1593, .iconst 2, 1), (1594, .iadd, 1), (1595, .iaload, 1), (1596, .invokevirtual 230, 3), (1599, .aload_n 2, 1), (1600, .aload_n 0, 1), (1601, .iload_n 3, 1), (1602, .iconst 1, 1), (1603, .iadd, 1), (1604, .iaload, 1), (1605, .aload_n 0, 1), (1606, .iload_n 3, 1), (1607, .iconst 2, 1), (1608, .iadd, 1), (1609, .iaload, 1), (1610, .invokevirtual 233, 3), (1613, .if_icmp .eq 661, 3), (1618, .aload_n 1, 1), (1619, .aload_n 0, 1), (1620, .iload_n 3, 1), (1621, .iconst 1, 1), (1622, .iadd, 1), (1623, .iaload, 1), (1624, .aload_n 0, 1), (1625, .iload_n 3, 1), (1626, .iconst 2, 1), (1627, .iadd, 1), (1628, .iaload, 1), (1629, .invokevirtual 234, 3), (1632, .aload_n 2, 1), (1633, .aload_n 0, 1), (1634, .iload_n 3, 1), (1635, .iconst 1, 1), (1636, .iadd, 1), (1637, .iaload, 1), (1638, .aload_n 0, 1), (1639, .iload_n 3, 1), (1640, .iconst 2, 1), (1641, .iadd, 1), (1642, .iaload, 1), (1643, .invokevirtual 237, 3), (1646, .if_icmp .eq 628, 3), (1651, .aload_n 1, 1), (1652, .aload_n 0, 1), (1653, .iload_n 3, 1), (1654, .iconst 1, 1), (1655, .iadd, 1), (1656, .iaload, 1), (1657, .aload_n 0, 1), (1658, .iload_n 3, 1), (1659, .iconst 2, 1), (1660, .iadd, 1), (1661, .iaload, 1), (1662, .invokevirtual 238, 3), (1665, .aload_n 2, 1), (1666, .aload_n 0, 1), (1667, .iload_n 3, 1), (1668, .iconst 1, 1), (1669, .iadd, 1), (1670, .iaload, 1), (1671, .aload_n 0, 1), (1672, .iload_n 3, 1), (1673, .iconst 2, 1), (1674, .iadd, 1), (1675, .iaload, 1), (1676, .invokevirtual 241, 3), (1679, .if_icmp .eq 595, 3), (1684, .aload_n 1, 1), (1685, .aload_n 0, 1), (1686, .iload_n 3, 1), (1687, .iconst 1, 1), (1688, .iadd, 1), (1689, .iaload, 1), (1690, .aload_n 0, 1), (1691, .iload_n 3, 1), (1692, .iconst 2, 1), (1693, .iadd, 1), (1694, .iaload, 1), (1695, .aload_n 0, 1), (1696, .iload_n 3, 1), (1697, .iconst 3, 1), (1698, .iadd, 1), (1699, .iaload, 1), (1700, .aload_n 0, 1), (1701, .iload_n 3, 1), (1702, .iconst 4, 1), (1703, .iadd, 1), (1704, .iaload, 1), (1705, .invokevirtual 242, 3), (1708, .aload_n 2, 1), (1709, .aload_n 0, 1), (1710, .iload_n 3, 1), (1711, .iconst 1, 1), (1712, .iadd, 1), (1713, .iaload, 1), (1714, .aload_n 0, 1), (1715, .iload_n 3, 1), (1716, .iconst 2, 1), (1717, .iadd, 1), (1718, .iaload, 1), (1719, .aload_n 0, 1), (1720, .iload_n 3, 1), (1721, .iconst 3, 1), (1722, .iadd, 1), (1723, .iaload, 1), (1724, .aload_n 0, 1), (1725, .iload_n 3, 1), (1726, .iconst 4, 1), (1727, .iadd, 1), (1728, .iaload, 1), (1729, .invokevirtual 246, 3), (1732, .if_icmp .eq 542, 3), (1737, .aload_n 1, 1), (1738, .aload_n 0, 1), (1739, .iload_n 3, 1), (1740, .iconst 1, 1), (1741, .iadd, 1), (1742, .iaload, 1), (1743, .aload_n 0, 1), (1744, .iload_n 3, 1), (1745, .iconst 2, 1), (1746, .iadd, 1), (1747, .iaload, 1), (1748, .aload_n 0, 1), (1749, .iload_n 3, 1), (1750, .iconst 3, 1), (1751, .iadd, 1), (1752, .iaload, 1), (1753, .aload_n 0, 1), (1754, .iload_n 3, 1), (1755, .iconst 4, 1), (1756, .iadd, 1), (1757, .iaload, 1), (1758, .invokevirtual 247, 3), (1761, .aload_n 2, 1), (1762, .aload_n 0, 1), (1763, .iload_n 3, 1), (1764, .iconst 1, 1), (1765, .iadd, 1), (1766, .iaload, 1), (1767, .aload_n 0, 1), (1768, .iload_n 3, 1), (1769, .iconst 2, 1), (1770, .iadd, 1), (1771, .iaload, 1), (1772, .aload_n 0, 1), (1773, .iload_n 3, 1), (1774, .iconst 3, 1), (1775, .iadd, 1), (1776, .iaload, 1), (1777, .aload_n 0, 1), (1778, .iload_n 3, 1), (1779, .iconst 4, 1), (1780, .iadd, 1), (1781, .iaload, 1), (1782, .invokevirtual 251, 3), (1785, .lcmp, 1), (1786, .ifCond .eq 488, 3), (1791, .aload_n 1, 1), (1792, .aload_n 0, 1), (1793, .iload_n 3, 1), (1794, .iconst 1, 1), (1795, .iadd, 1), (1796, .iaload, 1), (1797, .aload_n 0, 1), (1798, .iload_n 3, 1), (1799, .iconst 2, 1), (1800, .iadd, 1), (1801, .iaload, 1), (1802, .invokevirtual 252, 3), (1805, .aload_n 2, 1), (1806, .aload_n 0, 1), (1807, .iload_n 3, 1), (1808, .iconst 1, 1), (1809, .iadd, 1), (1810, .iaload, 1), (1811, .aload_n 0, 1), (1812, .iload_n 3, 1), (1813, .iconst 2, 1), (1814, .iadd, 1), (1815, .iaload, 1), (1816, .invokevirtual 256, 3), (1819, .lcmp, 1), (1820, .ifCond .eq 454, 3), (1825, .aload_n 1, 1), (1826, .aload_n 0, 1), (1827, .iload_n 3, 1), (1828, .iconst 1, 1), (1829, .iadd, 1), (1830, .iaload, 1), (1831, .aload_n 0, 1), (1832, .iload_n 3, 1), (1833, .iconst 2, 1), (1834, .iadd, 1), (1835, .iaload, 1), (1836, .invokevirtual 257, 3), (1839, .aload_n 2, 1), (1840, .aload_n 0, 1), (1841, .iload_n 3, 1), (1842, .iconst 1, 1), (1843, .iadd, 1), (1844, .iaload, 1), (1845, .aload_n 0, 1), (1846, .iload_n 3, 1), (1847, .iconst 2, 1), (1848, .iadd, 1), (1849, .iaload, 1), (1850, .invokevirtual 260, 3), (1853, .if_icmp .eq 421, 3), (1858, .aload_n 1, 1), (1859, .aload_n 0, 1), (1860, .iload_n 3, 1), (1861, .iconst 1, 1), (1862, .iadd, 1), (1863, .iaload, 1), (1864, .aload_n 0, 1), (1865, .iload_n 3, 1), (1866, .iconst 2, 1), (1867, .iadd, 1), (1868, .iaload, 1), (1869, .invokevirtual 261, 3), (1872, .aload_n 2, 1), (1873, .aload_n 0, 1), (1874, .iload_n 3, 1), (1875, .iconst 1, 1), (1876, .iadd, 1), (1877, .iaload, 1), (1878, .aload_n 0, 1), (1879, .iload_n 3, 1), (1880, .iconst 2, 1), (1881, .iadd, 1), (1882, .iaload, 1), (1883, .invokevirtual 264, 3), (1886, .if_icmp .eq 388, 3), (1891, .aload_n 1, 1), (1892, .invokevirtual 265, 3), (1895, .aload_n 2, 1), (1896, .invokevirtual 268, 3), (1899, .if_icmp .eq 375, 3), (1904, .aload_n 1, 1), (1905, .invokevirtual 269, 3), (1908, .aload_n 2, 1), (1909, .invokevirtual 272, 3), (1912, .if_icmp .eq 362, 3), (1917, .aload_n 1, 1), (1918, .aload_n 0, 1), (1919, .iload_n 3, 1), (1920, .iconst 1, 1), (1921, .iadd, 1), (1922, .iaload, 1), (1923, .aload_n 0, 1), (1924, .iload_n 3, 1), (1925, .iconst 2, 1), (1926, .iadd, 1), (1927, .iaload, 1), (1928, .invokevirtual 273, 3), (1931, .aload_n 2, 1), (1932, .aload_n 0, 1), (1933, .iload_n 3, 1), (1934, .iconst 1, 1), (1935, .iadd, 1), (1936, .iaload, 1), (1937, .aload_n 0, 1), (1938, .iload_n 3, 1), (1939, .iconst 2, 1), (1940, .iadd, 1), (1941, .iaload, 1), (1942, .invokevirtual 276, 3), (1945, .if_icmp .eq 329, 3), (1950, .aload_n 1, 1), (1951, .aload_n 0, 1), (1952, .iload_n 3, 1), (1953, .iconst 1, 1), (1954, .iadd, 1), (1955, .iaload, 1), (1956, .aload_n 0, 1), (1957, .iload_n 3, 1), (1958, .iconst 2, 1), (1959, .iadd, 1), (1960, .iaload, 1), (1961, .aload_n 0, 1), (1962, .iload_n 3, 1), (1963, .iconst 3, 1), (1964, .iadd, 1), (1965, .iaload, 1), (1966, .invokevirtual 277, 3), (1969, .aload_n 2, 1), (1970, .aload_n 0, 1), (1971, .iload_n 3, 1), (1972, .iconst 1, 1), (1973, .iadd, 1), (1974, .iaload, 1), (1975, .aload_n 0, 1), (1976, .iload_n 3, 1), (1977, .iconst 2, 1), (1978, .iadd, 1), (1979, .iaload, 1), (1980, .aload_n 0, 1), (1981, .iload_n 3, 1), (1982, .iconst 3, 1), (1983, .iadd, 1), (1984, .iaload, 1), (1985, .invokevirtual 280, 3), (1988, .if_icmp .eq 286, 3), (1993, .aload_n 1, 1), (1994, .aload_n 0, 1), (1995, .iload_n 3, 1), (1996, .iconst 1, 1), (1997, .iadd, 1), (1998, .iaload, 1), (1999, .aload_n 0, 1), (2000, .iload_n 3, 1), (2001, .iconst 2, 1), (2002, .iadd, 1), (2003, .iaload, 1), (2004, .invokevirtual 281, 3), (2007, .aload_n 2, 1), (2008, .aload_n 0, 1), (2009, .iload_n 3, 1), (2010, .iconst 1, 1), (2011, .iadd, 1), (2012, .iaload, 1), (2013, .aload_n 0, 1), (2014, .iload_n 3, 1), (2015, .iconst 2, 1), (2016, .iadd, 1), (2017, .iaload, 1), (2018, .invokevirtual 284, 3), (2021, .if_icmp .eq 253, 3), (2026, .aload_n 1, 1), (2027, .aload_n 0, 1), (2028, .iload_n 3, 1), (2029, .iconst 1, 1), (2030, .iadd, 1), (2031, .iaload, 1), (2032, .invokevirtual 285, 3), (2035, .aload_n 2, 1), (2036, .aload_n 0, 1), (2037, .iload_n 3, 1), (2038, .iconst 1, 1), (2039, .iadd, 1), (2040, .iaload, 1), (2041, .invokevirtual 288, 3), (2044, .if_icmp .eq 230, 3), (2049, .aload_n 1, 1), (2050, .aload_n 0, 1), (2051, .iload_n 3, 1), (2052, .iconst 1, 1), (2053, .iadd, 1), (2054, .iaload, 1), (2055, .invokevirtual 289, 3), (2058, .aload_n 2, 1), (2059, .aload_n 0, 1), (2060, .iload_n 3, 1), (2061, .iconst 1, 1), (2062, .iadd, 1), (2063, .iaload, 1), (2064, .invokevirtual 292, 3), (2067, .if_icmp .eq 207, 3), (2072, .aload_n 1, 1), (2073, .aload_n 0, 1), (2074, .iload_n 3, 1), (2075, .iconst 1, 1), (2076, .iadd, 1), (2077, .iaload, 1), (2078, .invokevirtual 293, 3), (2081, .aload_n 2, 1), (2082, .aload_n 0, 1), (2083, .iload_n 3, 1), (2084, .iconst 1, 1), (2085, .iadd, 1), (2086, .iaload, 1), (2087, .invokevirtual 296, 3), (2090, .if_icmp .eq 184, 3), (2095, .aload_n 1, 1), (2096, .aload_n 0, 1), (2097, .iload_n 3, 1), (2098, .iconst 1, 1), (2099, .iadd, 1), (2100, .iaload, 1), (2101, .aload_n 0, 1), (2102, .iload_n 3, 1), (2103, .iconst 2, 1), (2104, .iadd, 1), (2105, .iaload, 1), (2106, .aload_n 0, 1), (2107, .iload_n 3, 1), (2108, .iconst 3, 1), (2109, .iadd, 1), (2110, .iaload, 1), (2111, .invokevirtual 297, 3), (2114, .aload_n 2, 1), (2115, .aload_n 0, 1), (2116, .iload_n 3, 1), (2117, .iconst 1, 1), (2118, .iadd, 1), (2119, .iaload, 1), (2120, .aload_n 0, 1), (2121, .iload_n 3, 1), (2122, .iconst 2, 1), (2123, .iadd, 1), (2124, .iaload, 1), (2125, .aload_n 0, 1), (2126, .iload_n 3, 1), (2127, .iconst 3, 1), (2128, .iadd, 1), (2129, .iaload, 1), (2130, .invokevirtual 300, 3), (2133, .if_icmp .eq 141, 3), (2138, .aload_n 1, 1), (2139, .aload_n 0, 1), (2140, .iload_n 3, 1), (2141, .iconst 1, 1), (2142, .iadd, 1), (2143, .iaload, 1), (2144, .aload_n 0, 1), (2145, .iload_n 3, 1), (2146, .iconst 2, 1), (2147, .iadd, 1), (2148, .iaload, 1), (2149, .aload_n 0, 1), (2150, .iload_n 3, 1), (2151, .iconst 3, 1), (2152, .iadd, 1), (2153, .iaload, 1), (2154, .i2l, 1), (2155, .bipush 32, 2), (2157, .lshl, 1), (2158, .aload_n 0, 1), (2159, .iload_n 3, 1), (2160, .iconst 4, 1), (2161, .iadd, 1), (2162, .iaload, 1), (2163, .i2l, 1), (2164, .ldc2_w 301, 3), (2167, .land, 1), (2168, .lor, 1), (2169, .invokevirtual 303, 3), (2172, .aload_n 2, 1), (2173, .aload_n 0, 1), (2174, .iload_n 3, 1), (2175, .iconst 1, 1), (2176, .iadd, 1), (2177, .iaload, 1), (2178, .aload_n 0, 1), (2179, .iload_n 3, 1), (2180, .iconst 2, 1), (2181, .iadd, 1), (2182, .iaload, 1), (2183, .aload_n 0, 1), (2184, .iload_n 3, 1), (2185, .iconst 3, 1), (2186, .iadd, 1), (2187, .iaload, 1), (2188, .i2l, 1), (2189, .bipush 32, 2), (2191, .lshl, 1), (2192, .aload_n 0, 1), (2193, .iload_n 3, 1), (2194, .iconst 4, 1), (2195, .iadd, 1), (2196, .iaload, 1), (2197, .i2l, 1), (2198, .ldc2_w 301, 3), (2201, .land, 1), (2202, .lor, 1), (2203, .invokevirtual 307, 3), (2206, .if_icmp .eq 68, 3), (2211, .aload_n 1, 1), (2212, .aload_n 0, 1), (2213, .iload_n 3, 1), (2214, .iconst 1, 1), (2215, .iadd, 1), (2216, .iaload, 1), (2217, .aload_n 0, 1), (2218, .iload_n 3, 1), (2219, .iconst 2, 1), (2220, .iadd, 1), (2221, .iaload, 1), (2222, .aload_n 0, 1), (2223, .iload_n 3, 1), (2224, .iconst 3, 1), (2225, .iadd, 1), (2226, .iaload, 1), (2227, .aload_n 0, 1), (2228, .iload_n 3, 1), (2229, .iconst 4, 1), (2230, .iadd, 1), (2231, .iaload, 1), (2232, .aload_n 0, 1), (2233, .iload_n 3, 1), (2234, .iconst 5, 1), (2235, .iadd, 1), (2236, .iaload, 1), (2237, .invokevirtual 308, 3), (2240, .aload_n 2, 1), (2241, .aload_n 0, 1), (2242, .iload_n 3, 1), (2243, .iconst 1, 1), (2244, .iadd, 1), (2245, .iaload, 1), (2246, .aload_n 0, 1), (2247, .iload_n 3, 1), (2248, .iconst 2, 1), (2249, .iadd, 1), (2250, .iaload, 1), (2251, .aload_n 0, 1), (2252, .iload_n 3, 1), (2253, .iconst 3, 1), (2254, .iadd, 1), (2255, .iaload, 1), (2256, .aload_n 0, 1), (2257, .iload_n 3, 1), (2258, .iconst 4, 1), (2259, .iadd, 1), (2260, .iaload, 1), (2261, .aload_n 0, 1), (2262, .iload_n 3, 1), (2263, .iconst 5, 1), (2264, .iadd, 1), (2265, .iaload, 1), (2266, .invokevirtual 311, 3), (2269, .if_icmp .eq 5, 3), (2274, .iinc 3 6, 3), (2277, .goto (-2259), 3), (2280, .iconst 1, 1), (2281, .ireturn, 1)], 4, [], [(301, 4294967295)], [])
theorem tk_L_law : TOK R_law vwCl gTbl code tb_L_law := ⟨by decide +kernel, fun _ h => absurd h List.not_mem_nil, List.forall_mem_cons.mpr ⟨wd_2185, fun _ h => absurd h List.not_mem_nil⟩, fun _ h => absurd h List.not_mem_nil⟩
end
