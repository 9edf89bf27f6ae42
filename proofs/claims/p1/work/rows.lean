section
-- ===== PART A: goes FIRST, ahead of the names: the tables' words, and 'selects' of the private methods out of them =====
/-- a private method of a class that the tables say can be made, by its rows of tables_1 -/
def lw_okq (q : MethodName × Nat) : Prop := (q.1.cls ≠ "java/lang/invoke/MethodHandle" ∧ q.1.cls ≠ "java/lang/invoke/VarHandle") ∧ Cond.instantiable q.1.cls q.2 ∈ tables_1 ∧ Cond.privateMethod q.1 ∈ tables_1 ∧ Cond.instanceMethod q.1 ∈ tables_1
theorem lw_p0 : lw_okq (⟨"NailStain", "readText", "(IILjava/lang/String;)I"⟩, 13) := ⟨⟨by decide +kernel, by decide +kernel⟩, List.mem_of_getElem? (i := 22) (by decide +kernel), List.mem_of_getElem? (i := 438) (by decide +kernel), List.mem_of_getElem? (i := 439) (by decide +kernel)⟩
theorem lw_p1 : lw_okq (⟨"NailStain$Parser", "readClause", "(Ljava/lang/String;)V"⟩, 7) := ⟨⟨by decide +kernel, by decide +kernel⟩, List.mem_of_getElem? (i := 45) (by decide +kernel), List.mem_of_getElem? (i := 454) (by decide +kernel), List.mem_of_getElem? (i := 455) (by decide +kernel)⟩
theorem lw_p2 : lw_okq (⟨"NailStain$Parser", "isOneOf", "(Ljava/lang/String;)Z"⟩, 7) := ⟨⟨by decide +kernel, by decide +kernel⟩, List.mem_of_getElem? (i := 45) (by decide +kernel), List.mem_of_getElem? (i := 458) (by decide +kernel), List.mem_of_getElem? (i := 459) (by decide +kernel)⟩
theorem lw_p3 : lw_okq (⟨"NailStain$Parser", "refuse", "(I)V"⟩, 7) := ⟨⟨by decide +kernel, by decide +kernel⟩, List.mem_of_getElem? (i := 45) (by decide +kernel), List.mem_of_getElem? (i := 548) (by decide +kernel), List.mem_of_getElem? (i := 549) (by decide +kernel)⟩
theorem lw_p4 : lw_okq (⟨"NailStain$Parser", "advance", "()V"⟩, 7) := ⟨⟨by decide +kernel, by decide +kernel⟩, List.mem_of_getElem? (i := 45) (by decide +kernel), List.mem_of_getElem? (i := 556) (by decide +kernel), List.mem_of_getElem? (i := 557) (by decide +kernel)⟩
theorem lw_p5 : lw_okq (⟨"NailStain$Parser", "readSum", "()V"⟩, 7) := ⟨⟨by decide +kernel, by decide +kernel⟩, List.mem_of_getElem? (i := 45) (by decide +kernel), List.mem_of_getElem? (i := 560) (by decide +kernel), List.mem_of_getElem? (i := 561) (by decide +kernel)⟩
theorem lw_p6 : lw_okq (⟨"NailStain$Parser", "readProduct", "()V"⟩, 7) := ⟨⟨by decide +kernel, by decide +kernel⟩, List.mem_of_getElem? (i := 45) (by decide +kernel), List.mem_of_getElem? (i := 564) (by decide +kernel), List.mem_of_getElem? (i := 565) (by decide +kernel)⟩
theorem lw_p7 : lw_okq (⟨"NailStain$Parser", "readFactor", "()V"⟩, 7) := ⟨⟨by decide +kernel, by decide +kernel⟩, List.mem_of_getElem? (i := 45) (by decide +kernel), List.mem_of_getElem? (i := 568) (by decide +kernel), List.mem_of_getElem? (i := 569) (by decide +kernel)⟩
theorem lw_p8 : lw_okq (⟨"NailStain$Parser", "opens", "()Z"⟩, 7) := ⟨⟨by decide +kernel, by decide +kernel⟩, List.mem_of_getElem? (i := 45) (by decide +kernel), List.mem_of_getElem? (i := 573) (by decide +kernel), List.mem_of_getElem? (i := 574) (by decide +kernel)⟩
theorem lw_p9 : lw_okq (⟨"NailStain$Parser", "take", "(Ljava/lang/String;)V"⟩, 7) := ⟨⟨by decide +kernel, by decide +kernel⟩, List.mem_of_getElem? (i := 45) (by decide +kernel), List.mem_of_getElem? (i := 578) (by decide +kernel), List.mem_of_getElem? (i := 579) (by decide +kernel)⟩
theorem lw_p10 : lw_okq (⟨"NailStain$Parser", "readNumber", "()V"⟩, 7) := ⟨⟨by decide +kernel, by decide +kernel⟩, List.mem_of_getElem? (i := 45) (by decide +kernel), List.mem_of_getElem? (i := 588) (by decide +kernel), List.mem_of_getElem? (i := 589) (by decide +kernel)⟩
theorem lw_p11 : lw_okq (⟨"NailStain$Parser", "readAny", "()V"⟩, 7) := ⟨⟨by decide +kernel, by decide +kernel⟩, List.mem_of_getElem? (i := 45) (by decide +kernel), List.mem_of_getElem? (i := 599) (by decide +kernel), List.mem_of_getElem? (i := 600) (by decide +kernel)⟩
theorem lw_p12 : lw_okq (⟨"NailStain$Parser", "readAll", "()V"⟩, 7) := ⟨⟨by decide +kernel, by decide +kernel⟩, List.mem_of_getElem? (i := 45) (by decide +kernel), List.mem_of_getElem? (i := 603) (by decide +kernel), List.mem_of_getElem? (i := 604) (by decide +kernel)⟩
theorem lw_p13 : lw_okq (⟨"NailStain$Parser", "readPiece", "()V"⟩, 7) := ⟨⟨by decide +kernel, by decide +kernel⟩, List.mem_of_getElem? (i := 45) (by decide +kernel), List.mem_of_getElem? (i := 607) (by decide +kernel), List.mem_of_getElem? (i := 608) (by decide +kernel)⟩
theorem lw_p14 : lw_okq (⟨"NailStain$Ship", "set", "(IIILNailStain$Text;)V"⟩, 11) := ⟨⟨by decide +kernel, by decide +kernel⟩, List.mem_of_getElem? (i := 111) (by decide +kernel), List.mem_of_getElem? (i := 655) (by decide +kernel), List.mem_of_getElem? (i := 656) (by decide +kernel)⟩
theorem lw_p15 : lw_okq (⟨"NailStain$Ship", "standAt", "(III)V"⟩, 11) := ⟨⟨by decide +kernel, by decide +kernel⟩, List.mem_of_getElem? (i := 111) (by decide +kernel), List.mem_of_getElem? (i := 664) (by decide +kernel), List.mem_of_getElem? (i := 665) (by decide +kernel)⟩
def lw_privs_1 : List (MethodName × Nat) := [(⟨"NailStain", "readText", "(IILjava/lang/String;)I"⟩, 13), (⟨"NailStain$Parser", "readClause", "(Ljava/lang/String;)V"⟩, 7), (⟨"NailStain$Parser", "isOneOf", "(Ljava/lang/String;)Z"⟩, 7), (⟨"NailStain$Parser", "refuse", "(I)V"⟩, 7), (⟨"NailStain$Parser", "advance", "()V"⟩, 7), (⟨"NailStain$Parser", "readSum", "()V"⟩, 7), (⟨"NailStain$Parser", "readProduct", "()V"⟩, 7), (⟨"NailStain$Parser", "readFactor", "()V"⟩, 7), (⟨"NailStain$Parser", "opens", "()Z"⟩, 7), (⟨"NailStain$Parser", "take", "(Ljava/lang/String;)V"⟩, 7), (⟨"NailStain$Parser", "readNumber", "()V"⟩, 7), (⟨"NailStain$Parser", "readAny", "()V"⟩, 7), (⟨"NailStain$Parser", "readAll", "()V"⟩, 7), (⟨"NailStain$Parser", "readPiece", "()V"⟩, 7), (⟨"NailStain$Ship", "set", "(IIILNailStain$Text;)V"⟩, 11), (⟨"NailStain$Ship", "standAt", "(III)V"⟩, 11)]
theorem lw_r1 : ∀ q ∈ lw_privs_1, lw_okq q := List.forall_mem_cons.mpr ⟨lw_p0, List.forall_mem_cons.mpr ⟨lw_p1, List.forall_mem_cons.mpr ⟨lw_p2, List.forall_mem_cons.mpr ⟨lw_p3, List.forall_mem_cons.mpr ⟨lw_p4, List.forall_mem_cons.mpr ⟨lw_p5, List.forall_mem_cons.mpr ⟨lw_p6, List.forall_mem_cons.mpr ⟨lw_p7, List.forall_mem_cons.mpr ⟨lw_p8, List.forall_mem_cons.mpr ⟨lw_p9, List.forall_mem_cons.mpr ⟨lw_p10, List.forall_mem_cons.mpr ⟨lw_p11, List.forall_mem_cons.mpr ⟨lw_p12, List.forall_mem_cons.mpr ⟨lw_p13, List.forall_mem_cons.mpr ⟨lw_p14, List.forall_mem_cons.mpr ⟨lw_p15, fun _ h => absurd h List.not_mem_nil⟩⟩⟩⟩⟩⟩⟩⟩⟩⟩⟩⟩⟩⟩⟩⟩
theorem lw_p16 : lw_okq (⟨"NailStain$Text", "run", "(I[I)I"⟩, 9) := ⟨⟨by decide +kernel, by decide +kernel⟩, List.mem_of_getElem? (i := 74) (by decide +kernel), List.mem_of_getElem? (i := 673) (by decide +kernel), List.mem_of_getElem? (i := 674) (by decide +kernel)⟩
theorem lw_p17 : lw_okq (⟨"NailStain$Text", "stepOn", "(I[I)I"⟩, 9) := ⟨⟨by decide +kernel, by decide +kernel⟩, List.mem_of_getElem? (i := 74) (by decide +kernel), List.mem_of_getElem? (i := 677) (by decide +kernel), List.mem_of_getElem? (i := 678) (by decide +kernel)⟩
theorem lw_p18 : lw_okq (⟨"NailStain$Text", "push", "(I)V"⟩, 9) := ⟨⟨by decide +kernel, by decide +kernel⟩, List.mem_of_getElem? (i := 74) (by decide +kernel), List.mem_of_getElem? (i := 681) (by decide +kernel), List.mem_of_getElem? (i := 682) (by decide +kernel)⟩
theorem lw_p19 : lw_okq (⟨"NailStain$Text", "pop", "()I"⟩, 9) := ⟨⟨by decide +kernel, by decide +kernel⟩, List.mem_of_getElem? (i := 74) (by decide +kernel), List.mem_of_getElem? (i := 685) (by decide +kernel), List.mem_of_getElem? (i := 686) (by decide +kernel)⟩
theorem lw_p20 : lw_okq (⟨"NailStain$Text", "reckon", "(III)I"⟩, 9) := ⟨⟨by decide +kernel, by decide +kernel⟩, List.mem_of_getElem? (i := 74) (by decide +kernel), List.mem_of_getElem? (i := 689) (by decide +kernel), List.mem_of_getElem? (i := 690) (by decide +kernel)⟩
theorem lw_p21 : lw_okq (⟨"NailStain$Ship", "touchAll", "()V"⟩, 11) := ⟨⟨by decide +kernel, by decide +kernel⟩, List.mem_of_getElem? (i := 111) (by decide +kernel), List.mem_of_getElem? (i := 698) (by decide +kernel), List.mem_of_getElem? (i := 699) (by decide +kernel)⟩
theorem lw_p22 : lw_okq (⟨"NailStain$Ship", "sinkOne", "(IIILNailStain$Text;)V"⟩, 11) := ⟨⟨by decide +kernel, by decide +kernel⟩, List.mem_of_getElem? (i := 111) (by decide +kernel), List.mem_of_getElem? (i := 718) (by decide +kernel), List.mem_of_getElem? (i := 719) (by decide +kernel)⟩
theorem lw_p23 : lw_okq (⟨"NailStain$Drawings", "gather", "(III[I)I"⟩, 7) := ⟨⟨by decide +kernel, by decide +kernel⟩, List.mem_of_getElem? (i := 174) (by decide +kernel), List.mem_of_getElem? (i := 837) (by decide +kernel), List.mem_of_getElem? (i := 838) (by decide +kernel)⟩
theorem lw_p24 : lw_okq (⟨"NailStain$Lines", "look", "(III)V"⟩, 12) := ⟨⟨by decide +kernel, by decide +kernel⟩, List.mem_of_getElem? (i := 203) (by decide +kernel), List.mem_of_getElem? (i := 885) (by decide +kernel), List.mem_of_getElem? (i := 886) (by decide +kernel)⟩
theorem lw_p25 : lw_okq (⟨"NailStain$Lines", "bridge", "(I)V"⟩, 12) := ⟨⟨by decide +kernel, by decide +kernel⟩, List.mem_of_getElem? (i := 203) (by decide +kernel), List.mem_of_getElem? (i := 893) (by decide +kernel), List.mem_of_getElem? (i := 894) (by decide +kernel)⟩
theorem lw_p26 : lw_okq (⟨"NailStain$Lines", "lay", "(I)V"⟩, 12) := ⟨⟨by decide +kernel, by decide +kernel⟩, List.mem_of_getElem? (i := 203) (by decide +kernel), List.mem_of_getElem? (i := 906) (by decide +kernel), List.mem_of_getElem? (i := 907) (by decide +kernel)⟩
theorem lw_p27 : lw_okq (⟨"NailStain$Lines", "wide", "(I)I"⟩, 12) := ⟨⟨by decide +kernel, by decide +kernel⟩, List.mem_of_getElem? (i := 203) (by decide +kernel), List.mem_of_getElem? (i := 913) (by decide +kernel), List.mem_of_getElem? (i := 914) (by decide +kernel)⟩
theorem lw_p28 : lw_okq (⟨"NailStain$Lines", "bend", "(II)V"⟩, 12) := ⟨⟨by decide +kernel, by decide +kernel⟩, List.mem_of_getElem? (i := 203) (by decide +kernel), List.mem_of_getElem? (i := 917) (by decide +kernel), List.mem_of_getElem? (i := 918) (by decide +kernel)⟩
theorem lw_p29 : lw_okq (⟨"NailStain$Lines", "pairOf", "(III)I"⟩, 12) := ⟨⟨by decide +kernel, by decide +kernel⟩, List.mem_of_getElem? (i := 203) (by decide +kernel), List.mem_of_getElem? (i := 921) (by decide +kernel), List.mem_of_getElem? (i := 922) (by decide +kernel)⟩
theorem lw_p30 : lw_okq (⟨"NailStain$Lines", "choose", "(IIIII)V"⟩, 12) := ⟨⟨by decide +kernel, by decide +kernel⟩, List.mem_of_getElem? (i := 203) (by decide +kernel), List.mem_of_getElem? (i := 925) (by decide +kernel), List.mem_of_getElem? (i := 926) (by decide +kernel)⟩
theorem lw_p31 : lw_okq (⟨"NailStain$Lines", "follow", "(I)V"⟩, 12) := ⟨⟨by decide +kernel, by decide +kernel⟩, List.mem_of_getElem? (i := 203) (by decide +kernel), List.mem_of_getElem? (i := 930) (by decide +kernel), List.mem_of_getElem? (i := 931) (by decide +kernel)⟩
def lw_privs_2 : List (MethodName × Nat) := [(⟨"NailStain$Text", "run", "(I[I)I"⟩, 9), (⟨"NailStain$Text", "stepOn", "(I[I)I"⟩, 9), (⟨"NailStain$Text", "push", "(I)V"⟩, 9), (⟨"NailStain$Text", "pop", "()I"⟩, 9), (⟨"NailStain$Text", "reckon", "(III)I"⟩, 9), (⟨"NailStain$Ship", "touchAll", "()V"⟩, 11), (⟨"NailStain$Ship", "sinkOne", "(IIILNailStain$Text;)V"⟩, 11), (⟨"NailStain$Drawings", "gather", "(III[I)I"⟩, 7), (⟨"NailStain$Lines", "look", "(III)V"⟩, 12), (⟨"NailStain$Lines", "bridge", "(I)V"⟩, 12), (⟨"NailStain$Lines", "lay", "(I)V"⟩, 12), (⟨"NailStain$Lines", "wide", "(I)I"⟩, 12), (⟨"NailStain$Lines", "bend", "(II)V"⟩, 12), (⟨"NailStain$Lines", "pairOf", "(III)I"⟩, 12), (⟨"NailStain$Lines", "choose", "(IIIII)V"⟩, 12), (⟨"NailStain$Lines", "follow", "(I)V"⟩, 12)]
theorem lw_r2 : ∀ q ∈ lw_privs_2, lw_okq q := List.forall_mem_cons.mpr ⟨lw_p16, List.forall_mem_cons.mpr ⟨lw_p17, List.forall_mem_cons.mpr ⟨lw_p18, List.forall_mem_cons.mpr ⟨lw_p19, List.forall_mem_cons.mpr ⟨lw_p20, List.forall_mem_cons.mpr ⟨lw_p21, List.forall_mem_cons.mpr ⟨lw_p22, List.forall_mem_cons.mpr ⟨lw_p23, List.forall_mem_cons.mpr ⟨lw_p24, List.forall_mem_cons.mpr ⟨lw_p25, List.forall_mem_cons.mpr ⟨lw_p26, List.forall_mem_cons.mpr ⟨lw_p27, List.forall_mem_cons.mpr ⟨lw_p28, List.forall_mem_cons.mpr ⟨lw_p29, List.forall_mem_cons.mpr ⟨lw_p30, List.forall_mem_cons.mpr ⟨lw_p31, fun _ h => absurd h List.not_mem_nil⟩⟩⟩⟩⟩⟩⟩⟩⟩⟩⟩⟩⟩⟩⟩⟩
theorem lw_p32 : lw_okq (⟨"NailStain$Sizes", "usual", "()I"⟩, 6) := ⟨⟨by decide +kernel, by decide +kernel⟩, List.mem_of_getElem? (i := 281) (by decide +kernel), List.mem_of_getElem? (i := 965) (by decide +kernel), List.mem_of_getElem? (i := 966) (by decide +kernel)⟩
theorem lw_p33 : lw_okq (⟨"NailStain$Sizes", "put", "(ZZ)V"⟩, 6) := ⟨⟨by decide +kernel, by decide +kernel⟩, List.mem_of_getElem? (i := 281) (by decide +kernel), List.mem_of_getElem? (i := 973) (by decide +kernel), List.mem_of_getElem? (i := 974) (by decide +kernel)⟩
theorem lw_p34 : lw_okq (⟨"NailStain$Tholes", "pairsWithout", "(II)I"⟩, 2) := ⟨⟨by decide +kernel, by decide +kernel⟩, List.mem_of_getElem? (i := 308) (by decide +kernel), List.mem_of_getElem? (i := 1011) (by decide +kernel), List.mem_of_getElem? (i := 1012) (by decide +kernel)⟩
theorem lw_p35 : lw_okq (⟨"NailStain$Tholes", "at", "(II)I"⟩, 2) := ⟨⟨by decide +kernel, by decide +kernel⟩, List.mem_of_getElem? (i := 308) (by decide +kernel), List.mem_of_getElem? (i := 1015) (by decide +kernel), List.mem_of_getElem? (i := 1016) (by decide +kernel)⟩
theorem lw_p36 : lw_okq (⟨"NailStain$Tholes", "those", "(I)I"⟩, 2) := ⟨⟨by decide +kernel, by decide +kernel⟩, List.mem_of_getElem? (i := 308) (by decide +kernel), List.mem_of_getElem? (i := 1028) (by decide +kernel), List.mem_of_getElem? (i := 1029) (by decide +kernel)⟩
theorem lw_p37 : lw_okq (⟨"NailStain$Soil", "amount", "(IIII)I"⟩, 6) := ⟨⟨by decide +kernel, by decide +kernel⟩, List.mem_of_getElem? (i := 321) (by decide +kernel), List.mem_of_getElem? (i := 1067) (by decide +kernel), List.mem_of_getElem? (i := 1068) (by decide +kernel)⟩
theorem lw_p38 : lw_okq (⟨"NailStain$Soil", "weigh", "(III)V"⟩, 6) := ⟨⟨by decide +kernel, by decide +kernel⟩, List.mem_of_getElem? (i := 321) (by decide +kernel), List.mem_of_getElem? (i := 1071) (by decide +kernel), List.mem_of_getElem? (i := 1072) (by decide +kernel)⟩
theorem lw_p39 : lw_okq (⟨"NailStain$Stories", "counts", "(I)Z"⟩, 3) := ⟨⟨by decide +kernel, by decide +kernel⟩, List.mem_of_getElem? (i := 351) (by decide +kernel), List.mem_of_getElem? (i := 1116) (by decide +kernel), List.mem_of_getElem? (i := 1117) (by decide +kernel)⟩
theorem lw_p40 : lw_okq (⟨"NailStain$Hull", "breadth", "(II)I"⟩, 7) := ⟨⟨by decide +kernel, by decide +kernel⟩, List.mem_of_getElem? (i := 251) (by decide +kernel), List.mem_of_getElem? (i := 1136) (by decide +kernel), List.mem_of_getElem? (i := 1137) (by decide +kernel)⟩
theorem lw_p41 : lw_okq (⟨"NailStain$Hull", "measure", "(II)V"⟩, 7) := ⟨⟨by decide +kernel, by decide +kernel⟩, List.mem_of_getElem? (i := 251) (by decide +kernel), List.mem_of_getElem? (i := 1177) (by decide +kernel), List.mem_of_getElem? (i := 1178) (by decide +kernel)⟩
theorem lw_p42 : lw_okq (⟨"NailStain$Hull", "barNearMeetings", "()V"⟩, 7) := ⟨⟨by decide +kernel, by decide +kernel⟩, List.mem_of_getElem? (i := 251) (by decide +kernel), List.mem_of_getElem? (i := 1192) (by decide +kernel), List.mem_of_getElem? (i := 1193) (by decide +kernel)⟩
theorem lw_p43 : lw_okq (⟨"NailStain$Hull", "reckonNeeded", "(I)V"⟩, 7) := ⟨⟨by decide +kernel, by decide +kernel⟩, List.mem_of_getElem? (i := 251) (by decide +kernel), List.mem_of_getElem? (i := 1197) (by decide +kernel), List.mem_of_getElem? (i := 1198) (by decide +kernel)⟩
theorem lw_p44 : lw_okq (⟨"NailStain$Hull", "reaches", "(III)Z"⟩, 7) := ⟨⟨by decide +kernel, by decide +kernel⟩, List.mem_of_getElem? (i := 251) (by decide +kernel), List.mem_of_getElem? (i := 1201) (by decide +kernel), List.mem_of_getElem? (i := 1202) (by decide +kernel)⟩
theorem lw_p45 : lw_okq (⟨"NailStain$Hull", "joinPlanks", "(I)V"⟩, 7) := ⟨⟨by decide +kernel, by decide +kernel⟩, List.mem_of_getElem? (i := 251) (by decide +kernel), List.mem_of_getElem? (i := 1206) (by decide +kernel), List.mem_of_getElem? (i := 1207) (by decide +kernel)⟩
theorem lw_p46 : lw_okq (⟨"NailStain", "firstWrong", "(II)I"⟩, 13) := ⟨⟨by decide +kernel, by decide +kernel⟩, List.mem_of_getElem? (i := 22) (by decide +kernel), List.mem_of_getElem? (i := 1219) (by decide +kernel), List.mem_of_getElem? (i := 1220) (by decide +kernel)⟩
theorem lw_p47 : lw_okq (⟨"NailStainModel", "push", "(I)V"⟩, 81) := ⟨⟨by decide +kernel, by decide +kernel⟩, List.mem_of_getElem? (i := 1232) (by decide +kernel), List.mem_of_getElem? (i := 1500) (by decide +kernel), List.mem_of_getElem? (i := 1501) (by decide +kernel)⟩
def lw_privs_3 : List (MethodName × Nat) := [(⟨"NailStain$Sizes", "usual", "()I"⟩, 6), (⟨"NailStain$Sizes", "put", "(ZZ)V"⟩, 6), (⟨"NailStain$Tholes", "pairsWithout", "(II)I"⟩, 2), (⟨"NailStain$Tholes", "at", "(II)I"⟩, 2), (⟨"NailStain$Tholes", "those", "(I)I"⟩, 2), (⟨"NailStain$Soil", "amount", "(IIII)I"⟩, 6), (⟨"NailStain$Soil", "weigh", "(III)V"⟩, 6), (⟨"NailStain$Stories", "counts", "(I)Z"⟩, 3), (⟨"NailStain$Hull", "breadth", "(II)I"⟩, 7), (⟨"NailStain$Hull", "measure", "(II)V"⟩, 7), (⟨"NailStain$Hull", "barNearMeetings", "()V"⟩, 7), (⟨"NailStain$Hull", "reckonNeeded", "(I)V"⟩, 7), (⟨"NailStain$Hull", "reaches", "(III)Z"⟩, 7), (⟨"NailStain$Hull", "joinPlanks", "(I)V"⟩, 7), (⟨"NailStain", "firstWrong", "(II)I"⟩, 13), (⟨"NailStainModel", "push", "(I)V"⟩, 81)]
theorem lw_r3 : ∀ q ∈ lw_privs_3, lw_okq q := List.forall_mem_cons.mpr ⟨lw_p32, List.forall_mem_cons.mpr ⟨lw_p33, List.forall_mem_cons.mpr ⟨lw_p34, List.forall_mem_cons.mpr ⟨lw_p35, List.forall_mem_cons.mpr ⟨lw_p36, List.forall_mem_cons.mpr ⟨lw_p37, List.forall_mem_cons.mpr ⟨lw_p38, List.forall_mem_cons.mpr ⟨lw_p39, List.forall_mem_cons.mpr ⟨lw_p40, List.forall_mem_cons.mpr ⟨lw_p41, List.forall_mem_cons.mpr ⟨lw_p42, List.forall_mem_cons.mpr ⟨lw_p43, List.forall_mem_cons.mpr ⟨lw_p44, List.forall_mem_cons.mpr ⟨lw_p45, List.forall_mem_cons.mpr ⟨lw_p46, List.forall_mem_cons.mpr ⟨lw_p47, fun _ h => absurd h List.not_mem_nil⟩⟩⟩⟩⟩⟩⟩⟩⟩⟩⟩⟩⟩⟩⟩⟩
theorem lw_p48 : lw_okq (⟨"NailStainModel", "readsText", "(II)I"⟩, 81) := ⟨⟨by decide +kernel, by decide +kernel⟩, List.mem_of_getElem? (i := 1232) (by decide +kernel), List.mem_of_getElem? (i := 1508) (by decide +kernel), List.mem_of_getElem? (i := 1509) (by decide +kernel)⟩
theorem lw_p49 : lw_okq (⟨"NailStainModel", "isGood", "()Z"⟩, 81) := ⟨⟨by decide +kernel, by decide +kernel⟩, List.mem_of_getElem? (i := 1232) (by decide +kernel), List.mem_of_getElem? (i := 1513) (by decide +kernel), List.mem_of_getElem? (i := 1514) (by decide +kernel)⟩
theorem lw_p50 : lw_okq (⟨"NailStainModel", "clause", "(I)V"⟩, 81) := ⟨⟨by decide +kernel, by decide +kernel⟩, List.mem_of_getElem? (i := 1232) (by decide +kernel), List.mem_of_getElem? (i := 1517) (by decide +kernel), List.mem_of_getElem? (i := 1518) (by decide +kernel)⟩
theorem lw_p51 : lw_okq (⟨"NailStainModel", "here", "()I"⟩, 81) := ⟨⟨by decide +kernel, by decide +kernel⟩, List.mem_of_getElem? (i := 1232) (by decide +kernel), List.mem_of_getElem? (i := 1521) (by decide +kernel), List.mem_of_getElem? (i := 1522) (by decide +kernel)⟩
theorem lw_p52 : lw_okq (⟨"NailStainModel", "wrongs", "(II)V"⟩, 81) := ⟨⟨by decide +kernel, by decide +kernel⟩, List.mem_of_getElem? (i := 1232) (by decide +kernel), List.mem_of_getElem? (i := 1528) (by decide +kernel), List.mem_of_getElem? (i := 1529) (by decide +kernel)⟩
theorem lw_p53 : lw_okq (⟨"NailStainModel", "value", "()V"⟩, 81) := ⟨⟨by decide +kernel, by decide +kernel⟩, List.mem_of_getElem? (i := 1232) (by decide +kernel), List.mem_of_getElem? (i := 1532) (by decide +kernel), List.mem_of_getElem? (i := 1533) (by decide +kernel)⟩
theorem lw_p54 : lw_okq (⟨"NailStainModel", "factor", "()V"⟩, 81) := ⟨⟨by decide +kernel, by decide +kernel⟩, List.mem_of_getElem? (i := 1232) (by decide +kernel), List.mem_of_getElem? (i := 1536) (by decide +kernel), List.mem_of_getElem? (i := 1537) (by decide +kernel)⟩
theorem lw_p55 : lw_okq (⟨"NailStainModel", "opens", "()V"⟩, 81) := ⟨⟨by decide +kernel, by decide +kernel⟩, List.mem_of_getElem? (i := 1232) (by decide +kernel), List.mem_of_getElem? (i := 1540) (by decide +kernel), List.mem_of_getElem? (i := 1541) (by decide +kernel)⟩
theorem lw_p56 : lw_okq (⟨"NailStainModel", "puts", "(I)V"⟩, 81) := ⟨⟨by decide +kernel, by decide +kernel⟩, List.mem_of_getElem? (i := 1232) (by decide +kernel), List.mem_of_getElem? (i := 1544) (by decide +kernel), List.mem_of_getElem? (i := 1545) (by decide +kernel)⟩
theorem lw_p57 : lw_okq (⟨"NailStainModel", "seesDigit", "()Z"⟩, 81) := ⟨⟨by decide +kernel, by decide +kernel⟩, List.mem_of_getElem? (i := 1232) (by decide +kernel), List.mem_of_getElem? (i := 1548) (by decide +kernel), List.mem_of_getElem? (i := 1549) (by decide +kernel)⟩
theorem lw_p58 : lw_okq (⟨"NailStainModel", "reads", "()I"⟩, 81) := ⟨⟨by decide +kernel, by decide +kernel⟩, List.mem_of_getElem? (i := 1232) (by decide +kernel), List.mem_of_getElem? (i := 1554) (by decide +kernel), List.mem_of_getElem? (i := 1555) (by decide +kernel)⟩
theorem lw_p59 : lw_okq (⟨"NailStainModel", "emit", "(II)V"⟩, 81) := ⟨⟨by decide +kernel, by decide +kernel⟩, List.mem_of_getElem? (i := 1232) (by decide +kernel), List.mem_of_getElem? (i := 1558) (by decide +kernel), List.mem_of_getElem? (i := 1559) (by decide +kernel)⟩
theorem lw_p60 : lw_okq (⟨"NailStainModel", "stays", "()Z"⟩, 81) := ⟨⟨by decide +kernel, by decide +kernel⟩, List.mem_of_getElem? (i := 1232) (by decide +kernel), List.mem_of_getElem? (i := 1565) (by decide +kernel), List.mem_of_getElem? (i := 1566) (by decide +kernel)⟩
theorem lw_p61 : lw_okq (⟨"NailStainModel", "sums", "(Z)V"⟩, 81) := ⟨⟨by decide +kernel, by decide +kernel⟩, List.mem_of_getElem? (i := 1232) (by decide +kernel), List.mem_of_getElem? (i := 1575) (by decide +kernel), List.mem_of_getElem? (i := 1576) (by decide +kernel)⟩
theorem lw_p62 : lw_okq (⟨"NailStainModel", "top", "()I"⟩, 81) := ⟨⟨by decide +kernel, by decide +kernel⟩, List.mem_of_getElem? (i := 1232) (by decide +kernel), List.mem_of_getElem? (i := 1579) (by decide +kernel), List.mem_of_getElem? (i := 1580) (by decide +kernel)⟩
theorem lw_p63 : lw_okq (⟨"NailStainModel", "condition", "()V"⟩, 81) := ⟨⟨by decide +kernel, by decide +kernel⟩, List.mem_of_getElem? (i := 1232) (by decide +kernel), List.mem_of_getElem? (i := 1583) (by decide +kernel), List.mem_of_getElem? (i := 1584) (by decide +kernel)⟩
def lw_privs_4 : List (MethodName × Nat) := [(⟨"NailStainModel", "readsText", "(II)I"⟩, 81), (⟨"NailStainModel", "isGood", "()Z"⟩, 81), (⟨"NailStainModel", "clause", "(I)V"⟩, 81), (⟨"NailStainModel", "here", "()I"⟩, 81), (⟨"NailStainModel", "wrongs", "(II)V"⟩, 81), (⟨"NailStainModel", "value", "()V"⟩, 81), (⟨"NailStainModel", "factor", "()V"⟩, 81), (⟨"NailStainModel", "opens", "()V"⟩, 81), (⟨"NailStainModel", "puts", "(I)V"⟩, 81), (⟨"NailStainModel", "seesDigit", "()Z"⟩, 81), (⟨"NailStainModel", "reads", "()I"⟩, 81), (⟨"NailStainModel", "emit", "(II)V"⟩, 81), (⟨"NailStainModel", "stays", "()Z"⟩, 81), (⟨"NailStainModel", "sums", "(Z)V"⟩, 81), (⟨"NailStainModel", "top", "()I"⟩, 81), (⟨"NailStainModel", "condition", "()V"⟩, 81)]
theorem lw_r4 : ∀ q ∈ lw_privs_4, lw_okq q := List.forall_mem_cons.mpr ⟨lw_p48, List.forall_mem_cons.mpr ⟨lw_p49, List.forall_mem_cons.mpr ⟨lw_p50, List.forall_mem_cons.mpr ⟨lw_p51, List.forall_mem_cons.mpr ⟨lw_p52, List.forall_mem_cons.mpr ⟨lw_p53, List.forall_mem_cons.mpr ⟨lw_p54, List.forall_mem_cons.mpr ⟨lw_p55, List.forall_mem_cons.mpr ⟨lw_p56, List.forall_mem_cons.mpr ⟨lw_p57, List.forall_mem_cons.mpr ⟨lw_p58, List.forall_mem_cons.mpr ⟨lw_p59, List.forall_mem_cons.mpr ⟨lw_p60, List.forall_mem_cons.mpr ⟨lw_p61, List.forall_mem_cons.mpr ⟨lw_p62, List.forall_mem_cons.mpr ⟨lw_p63, fun _ h => absurd h List.not_mem_nil⟩⟩⟩⟩⟩⟩⟩⟩⟩⟩⟩⟩⟩⟩⟩⟩
theorem lw_p64 : lw_okq (⟨"NailStainModel", "pieceOfC", "()V"⟩, 81) := ⟨⟨by decide +kernel, by decide +kernel⟩, List.mem_of_getElem? (i := 1232) (by decide +kernel), List.mem_of_getElem? (i := 1587) (by decide +kernel), List.mem_of_getElem? (i := 1588) (by decide +kernel)⟩
theorem lw_p65 : lw_okq (⟨"NailStainModel", "ends", "()V"⟩, 81) := ⟨⟨by decide +kernel, by decide +kernel⟩, List.mem_of_getElem? (i := 1232) (by decide +kernel), List.mem_of_getElem? (i := 1594) (by decide +kernel), List.mem_of_getElem? (i := 1595) (by decide +kernel)⟩
theorem lw_p66 : lw_okq (⟨"NailStainModel", "goesBehind", "()Z"⟩, 81) := ⟨⟨by decide +kernel, by decide +kernel⟩, List.mem_of_getElem? (i := 1232) (by decide +kernel), List.mem_of_getElem? (i := 1598) (by decide +kernel), List.mem_of_getElem? (i := 1599) (by decide +kernel)⟩
theorem lw_p67 : lw_okq (⟨"NailStainModel", "joins", "(Z)V"⟩, 81) := ⟨⟨by decide +kernel, by decide +kernel⟩, List.mem_of_getElem? (i := 1232) (by decide +kernel), List.mem_of_getElem? (i := 1602) (by decide +kernel), List.mem_of_getElem? (i := 1603) (by decide +kernel)⟩
theorem lw_p68 : lw_okq (⟨"NailStainModel", "stands", "(III)V"⟩, 81) := ⟨⟨by decide +kernel, by decide +kernel⟩, List.mem_of_getElem? (i := 1232) (by decide +kernel), List.mem_of_getElem? (i := 1624) (by decide +kernel), List.mem_of_getElem? (i := 1625) (by decide +kernel)⟩
theorem lw_p69 : lw_okq (⟨"NailStainModel", "clears", "()V"⟩, 81) := ⟨⟨by decide +kernel, by decide +kernel⟩, List.mem_of_getElem? (i := 1232) (by decide +kernel), List.mem_of_getElem? (i := 1628) (by decide +kernel), List.mem_of_getElem? (i := 1629) (by decide +kernel)⟩
theorem lw_p70 : lw_okq (⟨"NailStainModel", "tells", "(IIII)I"⟩, 81) := ⟨⟨by decide +kernel, by decide +kernel⟩, List.mem_of_getElem? (i := 1232) (by decide +kernel), List.mem_of_getElem? (i := 1632) (by decide +kernel), List.mem_of_getElem? (i := 1633) (by decide +kernel)⟩
theorem lw_p71 : lw_okq (⟨"NailStainModel", "works", "(II)V"⟩, 81) := ⟨⟨by decide +kernel, by decide +kernel⟩, List.mem_of_getElem? (i := 1232) (by decide +kernel), List.mem_of_getElem? (i := 1636) (by decide +kernel), List.mem_of_getElem? (i := 1637) (by decide +kernel)⟩
theorem lw_p72 : lw_okq (⟨"NailStainModel", "does", "(II)V"⟩, 81) := ⟨⟨by decide +kernel, by decide +kernel⟩, List.mem_of_getElem? (i := 1232) (by decide +kernel), List.mem_of_getElem? (i := 1640) (by decide +kernel), List.mem_of_getElem? (i := 1641) (by decide +kernel)⟩
theorem lw_p73 : lw_okq (⟨"NailStainModel", "valueOf", "(I)I"⟩, 81) := ⟨⟨by decide +kernel, by decide +kernel⟩, List.mem_of_getElem? (i := 1232) (by decide +kernel), List.mem_of_getElem? (i := 1647) (by decide +kernel), List.mem_of_getElem? (i := 1648) (by decide +kernel)⟩
theorem lw_p74 : lw_okq (⟨"NailStainModel", "changes", "()V"⟩, 81) := ⟨⟨by decide +kernel, by decide +kernel⟩, List.mem_of_getElem? (i := 1232) (by decide +kernel), List.mem_of_getElem? (i := 1651) (by decide +kernel), List.mem_of_getElem? (i := 1652) (by decide +kernel)⟩
theorem lw_p75 : lw_okq (⟨"NailStainModel", "sinks", "(III)V"⟩, 81) := ⟨⟨by decide +kernel, by decide +kernel⟩, List.mem_of_getElem? (i := 1232) (by decide +kernel), List.mem_of_getElem? (i := 1665) (by decide +kernel), List.mem_of_getElem? (i := 1666) (by decide +kernel)⟩
theorem lw_p76 : lw_okq (⟨"NailStainModel", "draws", "()V"⟩, 81) := ⟨⟨by decide +kernel, by decide +kernel⟩, List.mem_of_getElem? (i := 1232) (by decide +kernel), List.mem_of_getElem? (i := 1669) (by decide +kernel), List.mem_of_getElem? (i := 1670) (by decide +kernel)⟩
theorem lw_p77 : lw_okq (⟨"NailStainModel", "left", "()I"⟩, 81) := ⟨⟨by decide +kernel, by decide +kernel⟩, List.mem_of_getElem? (i := 1232) (by decide +kernel), List.mem_of_getElem? (i := 1677) (by decide +kernel), List.mem_of_getElem? (i := 1678) (by decide +kernel)⟩
theorem lw_p78 : lw_okq (⟨"NailStainModel", "isRivet", "(III)Z"⟩, 81) := ⟨⟨by decide +kernel, by decide +kernel⟩, List.mem_of_getElem? (i := 1232) (by decide +kernel), List.mem_of_getElem? (i := 1685) (by decide +kernel), List.mem_of_getElem? (i := 1686) (by decide +kernel)⟩
theorem lw_p79 : lw_okq (⟨"NailStainModel", "isStation", "(I)Z"⟩, 81) := ⟨⟨by decide +kernel, by decide +kernel⟩, List.mem_of_getElem? (i := 1232) (by decide +kernel), List.mem_of_getElem? (i := 1689) (by decide +kernel), List.mem_of_getElem? (i := 1690) (by decide +kernel)⟩
def lw_privs_5 : List (MethodName × Nat) := [(⟨"NailStainModel", "pieceOfC", "()V"⟩, 81), (⟨"NailStainModel", "ends", "()V"⟩, 81), (⟨"NailStainModel", "goesBehind", "()Z"⟩, 81), (⟨"NailStainModel", "joins", "(Z)V"⟩, 81), (⟨"NailStainModel", "stands", "(III)V"⟩, 81), (⟨"NailStainModel", "clears", "()V"⟩, 81), (⟨"NailStainModel", "tells", "(IIII)I"⟩, 81), (⟨"NailStainModel", "works", "(II)V"⟩, 81), (⟨"NailStainModel", "does", "(II)V"⟩, 81), (⟨"NailStainModel", "valueOf", "(I)I"⟩, 81), (⟨"NailStainModel", "changes", "()V"⟩, 81), (⟨"NailStainModel", "sinks", "(III)V"⟩, 81), (⟨"NailStainModel", "draws", "()V"⟩, 81), (⟨"NailStainModel", "left", "()I"⟩, 81), (⟨"NailStainModel", "isRivet", "(III)Z"⟩, 81), (⟨"NailStainModel", "isStation", "(I)Z"⟩, 81)]
theorem lw_r5 : ∀ q ∈ lw_privs_5, lw_okq q := List.forall_mem_cons.mpr ⟨lw_p64, List.forall_mem_cons.mpr ⟨lw_p65, List.forall_mem_cons.mpr ⟨lw_p66, List.forall_mem_cons.mpr ⟨lw_p67, List.forall_mem_cons.mpr ⟨lw_p68, List.forall_mem_cons.mpr ⟨lw_p69, List.forall_mem_cons.mpr ⟨lw_p70, List.forall_mem_cons.mpr ⟨lw_p71, List.forall_mem_cons.mpr ⟨lw_p72, List.forall_mem_cons.mpr ⟨lw_p73, List.forall_mem_cons.mpr ⟨lw_p74, List.forall_mem_cons.mpr ⟨lw_p75, List.forall_mem_cons.mpr ⟨lw_p76, List.forall_mem_cons.mpr ⟨lw_p77, List.forall_mem_cons.mpr ⟨lw_p78, List.forall_mem_cons.mpr ⟨lw_p79, fun _ h => absurd h List.not_mem_nil⟩⟩⟩⟩⟩⟩⟩⟩⟩⟩⟩⟩⟩⟩⟩⟩
theorem lw_p80 : lw_okq (⟨"NailStainModel", "isStrake", "(I)Z"⟩, 81) := ⟨⟨by decide +kernel, by decide +kernel⟩, List.mem_of_getElem? (i := 1232) (by decide +kernel), List.mem_of_getElem? (i := 1693) (by decide +kernel), List.mem_of_getElem? (i := 1694) (by decide +kernel)⟩
theorem lw_p81 : lw_okq (⟨"NailStainModel", "isSeen", "(III)Z"⟩, 81) := ⟨⟨by decide +kernel, by decide +kernel⟩, List.mem_of_getElem? (i := 1232) (by decide +kernel), List.mem_of_getElem? (i := 1707) (by decide +kernel), List.mem_of_getElem? (i := 1708) (by decide +kernel)⟩
theorem lw_p82 : lw_okq (⟨"NailStainModel", "isDrawing", "(I)Z"⟩, 81) := ⟨⟨by decide +kernel, by decide +kernel⟩, List.mem_of_getElem? (i := 1232) (by decide +kernel), List.mem_of_getElem? (i := 1727) (by decide +kernel), List.mem_of_getElem? (i := 1728) (by decide +kernel)⟩
theorem lw_p83 : lw_okq (⟨"NailStainModel", "marks", "(IIII)V"⟩, 81) := ⟨⟨by decide +kernel, by decide +kernel⟩, List.mem_of_getElem? (i := 1232) (by decide +kernel), List.mem_of_getElem? (i := 1733) (by decide +kernel), List.mem_of_getElem? (i := 1734) (by decide +kernel)⟩
theorem lw_p84 : lw_okq (⟨"NailStainModel", "marksOf", "(I)I"⟩, 81) := ⟨⟨by decide +kernel, by decide +kernel⟩, List.mem_of_getElem? (i := 1232) (by decide +kernel), List.mem_of_getElem? (i := 1743) (by decide +kernel), List.mem_of_getElem? (i := 1744) (by decide +kernel)⟩
theorem lw_p85 : lw_okq (⟨"NailStainModel", "areTwo", "(II)Z"⟩, 81) := ⟨⟨by decide +kernel, by decide +kernel⟩, List.mem_of_getElem? (i := 1232) (by decide +kernel), List.mem_of_getElem? (i := 1755) (by decide +kernel), List.mem_of_getElem? (i := 1756) (by decide +kernel)⟩
theorem lw_p86 : lw_okq (⟨"NailStainModel", "joinsBoth", "(II)V"⟩, 81) := ⟨⟨by decide +kernel, by decide +kernel⟩, List.mem_of_getElem? (i := 1232) (by decide +kernel), List.mem_of_getElem? (i := 1761) (by decide +kernel), List.mem_of_getElem? (i := 1762) (by decide +kernel)⟩
theorem lw_p87 : lw_okq (⟨"NailStainModel", "middle", "(IIZ)I"⟩, 81) := ⟨⟨by decide +kernel, by decide +kernel⟩, List.mem_of_getElem? (i := 1232) (by decide +kernel), List.mem_of_getElem? (i := 1765) (by decide +kernel), List.mem_of_getElem? (i := 1766) (by decide +kernel)⟩
theorem lw_p88 : lw_okq (⟨"NailStainModel", "hasBoth", "(III)Z"⟩, 81) := ⟨⟨by decide +kernel, by decide +kernel⟩, List.mem_of_getElem? (i := 1232) (by decide +kernel), List.mem_of_getElem? (i := 1769) (by decide +kernel), List.mem_of_getElem? (i := 1770) (by decide +kernel)⟩
theorem lw_p89 : lw_okq (⟨"NailStainModel", "gapOf", "(IIIZ)I"⟩, 81) := ⟨⟨by decide +kernel, by decide +kernel⟩, List.mem_of_getElem? (i := 1232) (by decide +kernel), List.mem_of_getElem? (i := 1773) (by decide +kernel), List.mem_of_getElem? (i := 1774) (by decide +kernel)⟩
theorem lw_p90 : lw_okq (⟨"NailStainModel", "leftBy", "(I)I"⟩, 81) := ⟨⟨by decide +kernel, by decide +kernel⟩, List.mem_of_getElem? (i := 1232) (by decide +kernel), List.mem_of_getElem? (i := 1777) (by decide +kernel), List.mem_of_getElem? (i := 1778) (by decide +kernel)⟩
theorem lw_p91 : lw_okq (⟨"NailStainModel", "farFrom", "(III)I"⟩, 81) := ⟨⟨by decide +kernel, by decide +kernel⟩, List.mem_of_getElem? (i := 1232) (by decide +kernel), List.mem_of_getElem? (i := 1793) (by decide +kernel), List.mem_of_getElem? (i := 1794) (by decide +kernel)⟩
theorem lw_p92 : lw_okq (⟨"NailStainModel", "spans", "(II)Z"⟩, 81) := ⟨⟨by decide +kernel, by decide +kernel⟩, List.mem_of_getElem? (i := 1232) (by decide +kernel), List.mem_of_getElem? (i := 1805) (by decide +kernel), List.mem_of_getElem? (i := 1806) (by decide +kernel)⟩
theorem lw_p93 : lw_okq (⟨"NailStainModel", "sees", "(II)V"⟩, 81) := ⟨⟨by decide +kernel, by decide +kernel⟩, List.mem_of_getElem? (i := 1232) (by decide +kernel), List.mem_of_getElem? (i := 1809) (by decide +kernel), List.mem_of_getElem? (i := 1810) (by decide +kernel)⟩
theorem lw_p94 : lw_okq (⟨"NailStainModel", "isBent", "(II)Z"⟩, 81) := ⟨⟨by decide +kernel, by decide +kernel⟩, List.mem_of_getElem? (i := 1232) (by decide +kernel), List.mem_of_getElem? (i := 1817) (by decide +kernel), List.mem_of_getElem? (i := 1818) (by decide +kernel)⟩
theorem lw_p95 : lw_okq (⟨"NailStainModel", "bends", "(I)V"⟩, 81) := ⟨⟨by decide +kernel, by decide +kernel⟩, List.mem_of_getElem? (i := 1232) (by decide +kernel), List.mem_of_getElem? (i := 1821) (by decide +kernel), List.mem_of_getElem? (i := 1822) (by decide +kernel)⟩
def lw_privs_6 : List (MethodName × Nat) := [(⟨"NailStainModel", "isStrake", "(I)Z"⟩, 81), (⟨"NailStainModel", "isSeen", "(III)Z"⟩, 81), (⟨"NailStainModel", "isDrawing", "(I)Z"⟩, 81), (⟨"NailStainModel", "marks", "(IIII)V"⟩, 81), (⟨"NailStainModel", "marksOf", "(I)I"⟩, 81), (⟨"NailStainModel", "areTwo", "(II)Z"⟩, 81), (⟨"NailStainModel", "joinsBoth", "(II)V"⟩, 81), (⟨"NailStainModel", "middle", "(IIZ)I"⟩, 81), (⟨"NailStainModel", "hasBoth", "(III)Z"⟩, 81), (⟨"NailStainModel", "gapOf", "(IIIZ)I"⟩, 81), (⟨"NailStainModel", "leftBy", "(I)I"⟩, 81), (⟨"NailStainModel", "farFrom", "(III)I"⟩, 81), (⟨"NailStainModel", "spans", "(II)Z"⟩, 81), (⟨"NailStainModel", "sees", "(II)V"⟩, 81), (⟨"NailStainModel", "isBent", "(II)Z"⟩, 81), (⟨"NailStainModel", "bends", "(I)V"⟩, 81)]
theorem lw_r6 : ∀ q ∈ lw_privs_6, lw_okq q := List.forall_mem_cons.mpr ⟨lw_p80, List.forall_mem_cons.mpr ⟨lw_p81, List.forall_mem_cons.mpr ⟨lw_p82, List.forall_mem_cons.mpr ⟨lw_p83, List.forall_mem_cons.mpr ⟨lw_p84, List.forall_mem_cons.mpr ⟨lw_p85, List.forall_mem_cons.mpr ⟨lw_p86, List.forall_mem_cons.mpr ⟨lw_p87, List.forall_mem_cons.mpr ⟨lw_p88, List.forall_mem_cons.mpr ⟨lw_p89, List.forall_mem_cons.mpr ⟨lw_p90, List.forall_mem_cons.mpr ⟨lw_p91, List.forall_mem_cons.mpr ⟨lw_p92, List.forall_mem_cons.mpr ⟨lw_p93, List.forall_mem_cons.mpr ⟨lw_p94, List.forall_mem_cons.mpr ⟨lw_p95, fun _ h => absurd h List.not_mem_nil⟩⟩⟩⟩⟩⟩⟩⟩⟩⟩⟩⟩⟩⟩⟩⟩
theorem lw_p96 : lw_okq (⟨"NailStainModel", "widthOf", "(I)I"⟩, 81) := ⟨⟨by decide +kernel, by decide +kernel⟩, List.mem_of_getElem? (i := 1232) (by decide +kernel), List.mem_of_getElem? (i := 1825) (by decide +kernel), List.mem_of_getElem? (i := 1826) (by decide +kernel)⟩
theorem lw_p97 : lw_okq (⟨"NailStainModel", "fromPair", "(III)J"⟩, 81) := ⟨⟨by decide +kernel, by decide +kernel⟩, List.mem_of_getElem? (i := 1232) (by decide +kernel), List.mem_of_getElem? (i := 1832) (by decide +kernel), List.mem_of_getElem? (i := 1833) (by decide +kernel)⟩
theorem lw_p98 : lw_okq (⟨"NailStainModel", "bentBy", "(IIII)J"⟩, 81) := ⟨⟨by decide +kernel, by decide +kernel⟩, List.mem_of_getElem? (i := 1232) (by decide +kernel), List.mem_of_getElem? (i := 1837) (by decide +kernel), List.mem_of_getElem? (i := 1838) (by decide +kernel)⟩
theorem lw_p99 : lw_okq (⟨"NailStainModel", "bentAt", "(II)I"⟩, 81) := ⟨⟨by decide +kernel, by decide +kernel⟩, List.mem_of_getElem? (i := 1232) (by decide +kernel), List.mem_of_getElem? (i := 1843) (by decide +kernel), List.mem_of_getElem? (i := 1844) (by decide +kernel)⟩
theorem lw_p100 : lw_okq (⟨"NailStainModel", "commonSize", "()I"⟩, 81) := ⟨⟨by decide +kernel, by decide +kernel⟩, List.mem_of_getElem? (i := 1232) (by decide +kernel), List.mem_of_getElem? (i := 1860) (by decide +kernel), List.mem_of_getElem? (i := 1861) (by decide +kernel)⟩
theorem lw_p101 : lw_okq (⟨"NailStainModel", "tholeOf", "(II)I"⟩, 81) := ⟨⟨by decide +kernel, by decide +kernel⟩, List.mem_of_getElem? (i := 1232) (by decide +kernel), List.mem_of_getElem? (i := 1878) (by decide +kernel), List.mem_of_getElem? (i := 1879) (by decide +kernel)⟩
theorem lw_p102 : lw_okq (⟨"NailStainModel", "tholesThat", "(I)I"⟩, 81) := ⟨⟨by decide +kernel, by decide +kernel⟩, List.mem_of_getElem? (i := 1232) (by decide +kernel), List.mem_of_getElem? (i := 1882) (by decide +kernel), List.mem_of_getElem? (i := 1883) (by decide +kernel)⟩
theorem lw_p103 : lw_okq (⟨"NailStainModel", "muchAt", "(IIII)I"⟩, 81) := ⟨⟨by decide +kernel, by decide +kernel⟩, List.mem_of_getElem? (i := 1232) (by decide +kernel), List.mem_of_getElem? (i := 1904) (by decide +kernel), List.mem_of_getElem? (i := 1905) (by decide +kernel)⟩
theorem lw_p104 : lw_okq (⟨"NailStainModel", "oddsOf", "(I)J"⟩, 81) := ⟨⟨by decide +kernel, by decide +kernel⟩, List.mem_of_getElem? (i := 1232) (by decide +kernel), List.mem_of_getElem? (i := 1920) (by decide +kernel), List.mem_of_getElem? (i := 1921) (by decide +kernel)⟩
theorem lw_p105 : lw_okq (⟨"NailStainModel", "storiesTold", "()I"⟩, 81) := ⟨⟨by decide +kernel, by decide +kernel⟩, List.mem_of_getElem? (i := 1232) (by decide +kernel), List.mem_of_getElem? (i := 1928) (by decide +kernel), List.mem_of_getElem? (i := 1929) (by decide +kernel)⟩
theorem lw_p106 : lw_okq (⟨"NailStainModel", "canBe", "(I)Z"⟩, 81) := ⟨⟨by decide +kernel, by decide +kernel⟩, List.mem_of_getElem? (i := 1232) (by decide +kernel), List.mem_of_getElem? (i := 1932) (by decide +kernel), List.mem_of_getElem? (i := 1933) (by decide +kernel)⟩
theorem lw_p107 : lw_okq (⟨"NailStainModel", "areBent", "(I)Z"⟩, 81) := ⟨⟨by decide +kernel, by decide +kernel⟩, List.mem_of_getElem? (i := 1232) (by decide +kernel), List.mem_of_getElem? (i := 1943) (by decide +kernel), List.mem_of_getElem? (i := 1944) (by decide +kernel)⟩
theorem lw_p108 : lw_okq (⟨"NailStainModel", "areaOf", "(III)J"⟩, 81) := ⟨⟨by decide +kernel, by decide +kernel⟩, List.mem_of_getElem? (i := 1232) (by decide +kernel), List.mem_of_getElem? (i := 1947) (by decide +kernel), List.mem_of_getElem? (i := 1948) (by decide +kernel)⟩
theorem lw_p109 : lw_okq (⟨"NailStainModel", "volumeOf", "(II)J"⟩, 81) := ⟨⟨by decide +kernel, by decide +kernel⟩, List.mem_of_getElem? (i := 1232) (by decide +kernel), List.mem_of_getElem? (i := 1955) (by decide +kernel), List.mem_of_getElem? (i := 1956) (by decide +kernel)⟩
theorem lw_p110 : lw_okq (⟨"NailStainModel", "lengthOf", "(III)I"⟩, 81) := ⟨⟨by decide +kernel, by decide +kernel⟩, List.mem_of_getElem? (i := 1232) (by decide +kernel), List.mem_of_getElem? (i := 1976) (by decide +kernel), List.mem_of_getElem? (i := 1977) (by decide +kernel)⟩
theorem lw_p111 : lw_okq (⟨"NailStainModel", "partOf", "(II)I"⟩, 81) := ⟨⟨by decide +kernel, by decide +kernel⟩, List.mem_of_getElem? (i := 1232) (by decide +kernel), List.mem_of_getElem? (i := 1980) (by decide +kernel), List.mem_of_getElem? (i := 1981) (by decide +kernel)⟩
def lw_privs_7 : List (MethodName × Nat) := [(⟨"NailStainModel", "widthOf", "(I)I"⟩, 81), (⟨"NailStainModel", "fromPair", "(III)J"⟩, 81), (⟨"NailStainModel", "bentBy", "(IIII)J"⟩, 81), (⟨"NailStainModel", "bentAt", "(II)I"⟩, 81), (⟨"NailStainModel", "commonSize", "()I"⟩, 81), (⟨"NailStainModel", "tholeOf", "(II)I"⟩, 81), (⟨"NailStainModel", "tholesThat", "(I)I"⟩, 81), (⟨"NailStainModel", "muchAt", "(IIII)I"⟩, 81), (⟨"NailStainModel", "oddsOf", "(I)J"⟩, 81), (⟨"NailStainModel", "storiesTold", "()I"⟩, 81), (⟨"NailStainModel", "canBe", "(I)Z"⟩, 81), (⟨"NailStainModel", "areBent", "(I)Z"⟩, 81), (⟨"NailStainModel", "areaOf", "(III)J"⟩, 81), (⟨"NailStainModel", "volumeOf", "(II)J"⟩, 81), (⟨"NailStainModel", "lengthOf", "(III)I"⟩, 81), (⟨"NailStainModel", "partOf", "(II)I"⟩, 81)]
theorem lw_r7 : ∀ q ∈ lw_privs_7, lw_okq q := List.forall_mem_cons.mpr ⟨lw_p96, List.forall_mem_cons.mpr ⟨lw_p97, List.forall_mem_cons.mpr ⟨lw_p98, List.forall_mem_cons.mpr ⟨lw_p99, List.forall_mem_cons.mpr ⟨lw_p100, List.forall_mem_cons.mpr ⟨lw_p101, List.forall_mem_cons.mpr ⟨lw_p102, List.forall_mem_cons.mpr ⟨lw_p103, List.forall_mem_cons.mpr ⟨lw_p104, List.forall_mem_cons.mpr ⟨lw_p105, List.forall_mem_cons.mpr ⟨lw_p106, List.forall_mem_cons.mpr ⟨lw_p107, List.forall_mem_cons.mpr ⟨lw_p108, List.forall_mem_cons.mpr ⟨lw_p109, List.forall_mem_cons.mpr ⟨lw_p110, List.forall_mem_cons.mpr ⟨lw_p111, fun _ h => absurd h List.not_mem_nil⟩⟩⟩⟩⟩⟩⟩⟩⟩⟩⟩⟩⟩⟩⟩⟩
theorem lw_p112 : lw_okq (⟨"NailStainModel", "laysPlanks", "(II)Z"⟩, 81) := ⟨⟨by decide +kernel, by decide +kernel⟩, List.mem_of_getElem? (i := 1232) (by decide +kernel), List.mem_of_getElem? (i := 1989) (by decide +kernel), List.mem_of_getElem? (i := 1990) (by decide +kernel)⟩
theorem lw_p113 : lw_okq (⟨"NailStainModel", "mayJoin", "(I)Z"⟩, 81) := ⟨⟨by decide +kernel, by decide +kernel⟩, List.mem_of_getElem? (i := 1232) (by decide +kernel), List.mem_of_getElem? (i := 1993) (by decide +kernel), List.mem_of_getElem? (i := 1994) (by decide +kernel)⟩
theorem lw_p114 : lw_okq (⟨"NailStainModel", "numberAt", "(I)I"⟩, 81) := ⟨⟨by decide +kernel, by decide +kernel⟩, List.mem_of_getElem? (i := 1232) (by decide +kernel), List.mem_of_getElem? (i := 2007) (by decide +kernel), List.mem_of_getElem? (i := 2008) (by decide +kernel)⟩
def lw_privs_8 : List (MethodName × Nat) := [(⟨"NailStainModel", "laysPlanks", "(II)Z"⟩, 81), (⟨"NailStainModel", "mayJoin", "(I)Z"⟩, 81), (⟨"NailStainModel", "numberAt", "(I)I"⟩, 81)]
theorem lw_r8 : ∀ q ∈ lw_privs_8, lw_okq q := List.forall_mem_cons.mpr ⟨lw_p112, List.forall_mem_cons.mpr ⟨lw_p113, List.forall_mem_cons.mpr ⟨lw_p114, fun _ h => absurd h List.not_mem_nil⟩⟩⟩
def lw_privs : List (MethodName × Nat) := lw_privs_1 ++ (lw_privs_2 ++ (lw_privs_3 ++ (lw_privs_4 ++ (lw_privs_5 ++ (lw_privs_6 ++ (lw_privs_7 ++ (lw_privs_8)))))))
def lw_tbl : List Cond := k2_sels lw_privs ++ tables_1
theorem lw_privs_ok : ∀ q ∈ lw_privs, lw_okq q := by
  show ∀ q ∈ lw_privs_1 ++ (lw_privs_2 ++ (lw_privs_3 ++ (lw_privs_4 ++ (lw_privs_5 ++ (lw_privs_6 ++ (lw_privs_7 ++ (lw_privs_8))))))), lw_okq q
  exact List.forall_mem_append.mpr ⟨lw_r1, List.forall_mem_append.mpr ⟨lw_r2, List.forall_mem_append.mpr ⟨lw_r3, List.forall_mem_append.mpr ⟨lw_r4, List.forall_mem_append.mpr ⟨lw_r5, List.forall_mem_append.mpr ⟨lw_r6, List.forall_mem_append.mpr ⟨lw_r7, lw_r8⟩⟩⟩⟩⟩⟩⟩
end
section
def RX0 : String := "NailStain$Drawings"
def TX0 : u_T := fun k => match k with
  | 0 => ("NailStain$Drawings", "ship", "LNailStain$Ship;", true)
  | 1 => ("NailStain$Drawings", "across", "[I", true)
  | 2 => ("NailStain$Drawings", "deep", "[I", true)
  | 3 => ("NailStain$Drawings", "isMarked", "[Z", true)
  | 4 => ("NailStain$Drawings", "gaps", "[I", true)
  | 5 => ("NailStain$Drawings", "deepGaps", "[I", true)
  | _ => ("NailStain$Drawings", "made", "I", false)
def tyX0 : Nat → FieldType := fun k => match k with
  | 0 => .object "NailStain$Ship"
  | 1 => .array .int
  | 2 => .array .int
  | 3 => .array .boolean
  | 4 => .array .int
  | 5 => .array .int
  | _ => .int
abbrev wsX00 : List Cond := u_ws RX0 TX0 7
theorem nmX0 : ∀ a, a < 7 → ∀ b, b < 7 → a ≠ b → (TX0 a).2.1 ≠ (TX0 b).2.1 := by decide +kernel
theorem tyX0_ok : ∀ k, k < 7 → parseFieldDescriptor (TX0 k).2.2.1 = some (tyX0 k) := by decide +kernel
def RX1 : String := "NailStain$Hull"
def TX1 : u_T := fun k => match k with
  | 0 => ("NailStain$Hull", "ship", "LNailStain$Ship;", true)
  | 1 => ("NailStain$Hull", "lines", "LNailStain$Lines;", true)
  | 2 => ("NailStain$Hull", "lengthTo", "[I", true)
  | 3 => ("NailStain$Hull", "needed", "[I", true)
  | 4 => ("NailStain$Hull", "isBarred", "[Z", true)
  | 5 => ("NailStain$Hull", "meetingAt", "[I", true)
  | _ => ("NailStain$Hull", "meetings", "I", false)
def tyX1 : Nat → FieldType := fun k => match k with
  | 0 => .object "NailStain$Ship"
  | 1 => .object "NailStain$Lines"
  | 2 => .array .int
  | 3 => .array .int
  | 4 => .array .boolean
  | 5 => .array .int
  | _ => .int
abbrev wsX10 : List Cond := u_ws RX1 TX1 7
theorem nmX1 : ∀ a, a < 7 → ∀ b, b < 7 → a ≠ b → (TX1 a).2.1 ≠ (TX1 b).2.1 := by decide +kernel
theorem tyX1_ok : ∀ k, k < 7 → parseFieldDescriptor (TX1 k).2.2.1 = some (tyX1 k) := by decide +kernel
def RX2 : String := "NailStain$Lines"
def TX2 : u_T := fun k => match k with
  | 0 => ("NailStain$Lines", "ship", "LNailStain$Ship;", true)
  | 1 => ("NailStain$Lines", "low", "[I", true)
  | 2 => ("NailStain$Lines", "high", "[I", true)
  | 3 => ("NailStain$Lines", "isSeen", "[Z", true)
  | 4 => ("NailStain$Lines", "line", "[I", true)
  | 5 => ("NailStain$Lines", "squares", "[J", true)
  | 6 => ("NailStain$Lines", "isTold", "[Z", true)
  | 7 => ("NailStain$Lines", "outOf", "[I", true)
  | 8 => ("NailStain$Lines", "changeOf", "[I", true)
  | 9 => ("NailStain$Lines", "bestBehind", "[B", true)
  | 10 => ("NailStain$Lines", "squaresHere", "[J", false)
  | _ => ("NailStain$Lines", "squaresBehind", "[J", false)
def tyX2 : Nat → FieldType := fun k => match k with
  | 0 => .object "NailStain$Ship"
  | 1 => .array .int
  | 2 => .array .int
  | 3 => .array .boolean
  | 4 => .array .int
  | 5 => .array .long
  | 6 => .array .boolean
  | 7 => .array .int
  | 8 => .array .int
  | 9 => .array .byte
  | 10 => .array .long
  | _ => .array .long
abbrev wsX20 : List Cond := u_ws RX2 TX2 12
theorem nmX2 : ∀ a, a < 12 → ∀ b, b < 12 → a ≠ b → (TX2 a).2.1 ≠ (TX2 b).2.1 := by decide +kernel
theorem tyX2_ok : ∀ k, k < 12 → parseFieldDescriptor (TX2 k).2.2.1 = some (tyX2 k) := by decide +kernel
def RX3 : String := "NailStain$Parser"
def TX3 : u_T := fun k => match k with
  | 0 => ("NailStain$Parser", "tape", "LNailStain$Tape;", true)
  | 1 => ("NailStain$Parser", "text", "LNailStain$Text;", false)
  | 2 => ("NailStain$Parser", "end", "I", false)
  | 3 => ("NailStain$Parser", "at", "I", false)
  | 4 => ("NailStain$Parser", "sign", "I", false)
  | 5 => ("NailStain$Parser", "open", "I", false)
  | _ => ("NailStain$Parser", "fault", "I", false)
def tyX3 : Nat → FieldType := fun k => match k with
  | 0 => .object "NailStain$Tape"
  | 1 => .object "NailStain$Text"
  | 2 => .int
  | 3 => .int
  | 4 => .int
  | 5 => .int
  | _ => .int
abbrev wsX30 : List Cond := u_ws RX3 TX3 7
theorem nmX3 : ∀ a, a < 7 → ∀ b, b < 7 → a ≠ b → (TX3 a).2.1 ≠ (TX3 b).2.1 := by decide +kernel
theorem tyX3_ok : ∀ k, k < 7 → parseFieldDescriptor (TX3 k).2.2.1 = some (tyX3 k) := by decide +kernel
def RX4 : String := "NailStain$Ship"
def TX4 : u_T := fun k => match k with
  | 0 => ("NailStain$Ship", "across", "[I", true)
  | 1 => ("NailStain$Ship", "deep", "[I", true)
  | 2 => ("NailStain$Ship", "sizeOf", "[I", true)
  | 3 => ("NailStain$Ship", "isGone", "[Z", true)
  | 4 => ("NailStain$Ship", "mounds", "[I", true)
  | 5 => ("NailStain$Ship", "changes", "[I", true)
  | 6 => ("NailStain$Ship", "letters", "[I", true)
  | 7 => ("NailStain$Ship", "stations", "I", false)
  | 8 => ("NailStain$Ship", "strakes", "I", false)
  | 9 => ("NailStain$Ship", "cutStations", "I", false)
  | _ => ("NailStain$Ship", "chance", "I", false)
def tyX4 : Nat → FieldType := fun k => match k with
  | 0 => .array .int
  | 1 => .array .int
  | 2 => .array .int
  | 3 => .array .boolean
  | 4 => .array .int
  | 5 => .array .int
  | 6 => .array .int
  | 7 => .int
  | 8 => .int
  | 9 => .int
  | _ => .int
abbrev wsX40 : List Cond := u_ws RX4 TX4 11
theorem nmX4 : ∀ a, a < 11 → ∀ b, b < 11 → a ≠ b → (TX4 a).2.1 ≠ (TX4 b).2.1 := by decide +kernel
theorem tyX4_ok : ∀ k, k < 11 → parseFieldDescriptor (TX4 k).2.2.1 = some (tyX4 k) := by decide +kernel
def RX5 : String := "NailStain$Sizes"
def TX5 : u_T := fun k => match k with
  | 0 => ("NailStain$Sizes", "ship", "LNailStain$Ship;", true)
  | 1 => ("NailStain$Sizes", "having", "[I", true)
  | 2 => ("NailStain$Sizes", "sized", "I", false)
  | 3 => ("NailStain$Sizes", "odd", "I", false)
  | 4 => ("NailStain$Sizes", "sizedHere", "I", false)
  | _ => ("NailStain$Sizes", "oddHere", "I", false)
def tyX5 : Nat → FieldType := fun k => match k with
  | 0 => .object "NailStain$Ship"
  | 1 => .array .int
  | 2 => .int
  | 3 => .int
  | 4 => .int
  | _ => .int
abbrev wsX50 : List Cond := u_ws RX5 TX5 6
theorem nmX5 : ∀ a, a < 6 → ∀ b, b < 6 → a ≠ b → (TX5 a).2.1 ≠ (TX5 b).2.1 := by decide +kernel
theorem tyX5_ok : ∀ k, k < 6 → parseFieldDescriptor (TX5 k).2.2.1 = some (tyX5 k) := by decide +kernel
def RX6 : String := "NailStain$Soil"
def TX6 : u_T := fun k => match k with
  | 0 => ("NailStain$Soil", "cells", "[I", true)
  | 1 => ("NailStain$Soil", "bestColumn", "I", false)
  | 2 => ("NailStain$Soil", "bestRow", "I", false)
  | 3 => ("NailStain$Soil", "most", "I", false)
  | 4 => ("NailStain$Soil", "rank", "I", false)
  | _ => ("NailStain$Soil", "places", "I", false)
def tyX6 : Nat → FieldType := fun k => match k with
  | 0 => .array .int
  | 1 => .int
  | 2 => .int
  | 3 => .int
  | 4 => .int
  | _ => .int
abbrev wsX60 : List Cond := u_ws RX6 TX6 6
theorem nmX6 : ∀ a, a < 6 → ∀ b, b < 6 → a ≠ b → (TX6 a).2.1 ≠ (TX6 b).2.1 := by decide +kernel
theorem tyX6_ok : ∀ k, k < 6 → parseFieldDescriptor (TX6 k).2.2.1 = some (tyX6 k) := by decide +kernel
def RX7 : String := "NailStain$Stories"
def TX7 : u_T := fun k => match k with
  | 0 => ("NailStain$Stories", "thousandths", "[I", true)
  | 1 => ("NailStain$Stories", "isTold", "[Z", true)
  | _ => ("NailStain$Stories", "signs", "[I", true)
def tyX7 : Nat → FieldType := fun k => match k with
  | 0 => .array .int
  | 1 => .array .boolean
  | _ => .array .int
abbrev wsX70 : List Cond := u_ws RX7 TX7 3
theorem nmX7 : ∀ a, a < 3 → ∀ b, b < 3 → a ≠ b → (TX7 a).2.1 ≠ (TX7 b).2.1 := by decide +kernel
theorem tyX7_ok : ∀ k, k < 3 → parseFieldDescriptor (TX7 k).2.2.1 = some (tyX7 k) := by decide +kernel
def RX8 : String := "NailStain$Tape"
def TX8 : u_T := fun k => match k with
  | 0 => ("NailStain$Tape", "bytes", "[B", true)
  | _ => ("NailStain$Tape", "used", "I", false)
def tyX8 : Nat → FieldType := fun k => match k with
  | 0 => .array .byte
  | _ => .int
abbrev wsX80 : List Cond := u_ws RX8 TX8 2
theorem nmX8 : ∀ a, a < 2 → ∀ b, b < 2 → a ≠ b → (TX8 a).2.1 ≠ (TX8 b).2.1 := by decide +kernel
theorem tyX8_ok : ∀ k, k < 2 → parseFieldDescriptor (TX8 k).2.2.1 = some (tyX8 k) := by decide +kernel
def RX9 : String := "NailStain$Text"
def TX9 : u_T := fun k => match k with
  | 0 => ("NailStain$Text", "steps", "[I", true)
  | 1 => ("NailStain$Text", "stack", "[I", true)
  | 2 => ("NailStain$Text", "letterOf", "[I", true)
  | 3 => ("NailStain$Text", "numberFrom", "[I", true)
  | 4 => ("NailStain$Text", "conditionFrom", "[I", true)
  | 5 => ("NailStain$Text", "used", "I", false)
  | 6 => ("NailStain$Text", "clauses", "I", false)
  | 7 => ("NailStain$Text", "top", "I", false)
  | _ => ("NailStain$Text", "refused", "Z", false)
def tyX9 : Nat → FieldType := fun k => match k with
  | 0 => .array .int
  | 1 => .array .int
  | 2 => .array .int
  | 3 => .array .int
  | 4 => .array .int
  | 5 => .int
  | 6 => .int
  | 7 => .int
  | _ => .boolean
abbrev wsX90 : List Cond := u_ws RX9 TX9 9
theorem nmX9 : ∀ a, a < 9 → ∀ b, b < 9 → a ≠ b → (TX9 a).2.1 ≠ (TX9 b).2.1 := by decide +kernel
theorem tyX9_ok : ∀ k, k < 9 → parseFieldDescriptor (TX9 k).2.2.1 = some (tyX9 k) := by decide +kernel
def RX10 : String := "NailStain$Tholes"
def TX10 : u_T := fun k => match k with
  | 0 => ("NailStain$Tholes", "ship", "LNailStain$Ship;", true)
  | _ => ("NailStain$Tholes", "told", "[I", true)
def tyX10 : Nat → FieldType := fun k => match k with
  | 0 => .object "NailStain$Ship"
  | _ => .array .int
abbrev wsX100 : List Cond := u_ws RX10 TX10 2
theorem nmX10 : ∀ a, a < 2 → ∀ b, b < 2 → a ≠ b → (TX10 a).2.1 ≠ (TX10 b).2.1 := by decide +kernel
theorem tyX10_ok : ∀ k, k < 2 → parseFieldDescriptor (TX10 k).2.2.1 = some (tyX10 k) := by decide +kernel
def RX11 : String := "NailStain"
def TX11 : u_T := fun k => match k with
  | 0 => ("NailStain", "tape", "LNailStain$Tape;", true)
  | 1 => ("NailStain", "parser", "LNailStain$Parser;", true)
  | 2 => ("NailStain", "texts", "[LNailStain$Text;", true)
  | 3 => ("NailStain", "stainLetters", "[I", true)
  | 4 => ("NailStain", "ship", "LNailStain$Ship;", true)
  | 5 => ("NailStain", "drawings", "LNailStain$Drawings;", true)
  | 6 => ("NailStain", "lines", "LNailStain$Lines;", true)
  | 7 => ("NailStain", "hull", "LNailStain$Hull;", true)
  | 8 => ("NailStain", "sizes", "LNailStain$Sizes;", true)
  | 9 => ("NailStain", "tholes", "LNailStain$Tholes;", true)
  | 10 => ("NailStain", "soil", "LNailStain$Soil;", true)
  | 11 => ("NailStain", "stories", "LNailStain$Stories;", true)
  | _ => ("NailStain", "apart", "I", false)
def tyX11 : Nat → FieldType := fun k => match k with
  | 0 => .object "NailStain$Tape"
  | 1 => .object "NailStain$Parser"
  | 2 => .array (.object "NailStain$Text")
  | 3 => .array .int
  | 4 => .object "NailStain$Ship"
  | 5 => .object "NailStain$Drawings"
  | 6 => .object "NailStain$Lines"
  | 7 => .object "NailStain$Hull"
  | 8 => .object "NailStain$Sizes"
  | 9 => .object "NailStain$Tholes"
  | 10 => .object "NailStain$Soil"
  | 11 => .object "NailStain$Stories"
  | _ => .int
abbrev wsX110 : List Cond := u_ws RX11 TX11 13
theorem nmX11 : ∀ a, a < 13 → ∀ b, b < 13 → a ≠ b → (TX11 a).2.1 ≠ (TX11 b).2.1 := by decide +kernel
theorem tyX11_ok : ∀ k, k < 13 → parseFieldDescriptor (TX11 k).2.2.1 = some (tyX11 k) := by decide +kernel
def RX12 : String := "NailStainModel"
def TX12 : u_T := fun k => match k with
  | 0 => ("NailStainModel", "tape", "[B", true)
  | 1 => ("NailStainModel", "taped", "I", false)
  | 2 => ("NailStainModel", "stations", "I", false)
  | 3 => ("NailStainModel", "strakes", "I", false)
  | 4 => ("NailStainModel", "pitch", "I", false)
  | 5 => ("NailStainModel", "luck", "I", false)
  | 6 => ("NailStainModel", "many", "[I", true)
  | 7 => ("NailStainModel", "clauseLetter", "[I", true)
  | 8 => ("NailStainModel", "sumFrom", "[I", true)
  | 9 => ("NailStainModel", "codeFrom", "[I", true)
  | 10 => ("NailStainModel", "codeTo", "[I", true)
  | 11 => ("NailStainModel", "code", "[I", true)
  | 12 => ("NailStainModel", "codeArg", "[I", true)
  | 13 => ("NailStainModel", "newLetter", "[I", true)
  | 14 => ("NailStainModel", "newSum", "[I", true)
  | 15 => ("NailStainModel", "newFrom", "[I", true)
  | 16 => ("NailStainModel", "newTo", "[I", true)
  | 17 => ("NailStainModel", "newCode", "[I", true)
  | 18 => ("NailStainModel", "newArg", "[I", true)
  | 19 => ("NailStainModel", "place", "I", false)
  | 20 => ("NailStainModel", "end", "I", false)
  | 21 => ("NailStainModel", "bad", "I", false)
  | 22 => ("NailStainModel", "clauses", "I", false)
  | 23 => ("NailStainModel", "codes", "I", false)
  | 24 => ("NailStainModel", "open", "I", false)
  | 25 => ("NailStainModel", "stacked", "I", false)
  | 26 => ("NailStainModel", "isOver", "Z", false)
  | 27 => ("NailStainModel", "isBehind", "Z", false)
  | 28 => ("NailStainModel", "stack", "[I", true)
  | 29 => ("NailStainModel", "atF", "I", false)
  | 30 => ("NailStainModel", "atS", "I", false)
  | 31 => ("NailStainModel", "atD", "I", false)
  | 32 => ("NailStainModel", "atN", "I", false)
  | 33 => ("NailStainModel", "atC", "I", false)
  | 34 => ("NailStainModel", "atK", "I", false)
  | 35 => ("NailStainModel", "atY", "I", false)
  | 36 => ("NailStainModel", "atZ", "I", false)
  | 37 => ("NailStainModel", "atM", "I", false)
  | 38 => ("NailStainModel", "atX", "I", false)
  | 39 => ("NailStainModel", "atT", "I", false)
  | 40 => ("NailStainModel", "atV", "I", false)
  | 41 => ("NailStainModel", "atW", "I", false)
  | 42 => ("NailStainModel", "worth", "[I", true)
  | 43 => ("NailStainModel", "isRefused", "[Z", true)
  | 44 => ("NailStainModel", "across", "[I", true)
  | 45 => ("NailStainModel", "deep", "[I", true)
  | 46 => ("NailStainModel", "isGone", "[Z", true)
  | 47 => ("NailStainModel", "sizeOf", "[I", true)
  | 48 => ("NailStainModel", "mounds", "[I", true)
  | 49 => ("NailStainModel", "cutAway", "I", false)
  | 50 => ("NailStainModel", "drawings", "I", false)
  | 51 => ("NailStainModel", "hasMark", "[Z", true)
  | 52 => ("NailStainModel", "markAcross", "[I", true)
  | 53 => ("NailStainModel", "markDeep", "[I", true)
  | 54 => ("NailStainModel", "bothMany", "I", false)
  | 55 => ("NailStainModel", "shiftAcross", "I", false)
  | 56 => ("NailStainModel", "shiftDeep", "I", false)
  | 57 => ("NailStainModel", "leftAcross", "I", false)
  | 58 => ("NailStainModel", "leftDeep", "I", false)
  | 59 => ("NailStainModel", "gaps", "[I", true)
  | 60 => ("NailStainModel", "lowEnd", "[I", true)
  | 61 => ("NailStainModel", "highEnd", "[I", true)
  | 62 => ("NailStainModel", "seenLow", "[I", true)
  | 63 => ("NailStainModel", "seenHigh", "[I", true)
  | 64 => ("NailStainModel", "isThere", "[Z", true)
  | 65 => ("NailStainModel", "knownOut", "[I", true)
  | 66 => ("NailStainModel", "isKnown", "[Z", true)
  | 67 => ("NailStainModel", "isTold", "[Z", true)
  | 68 => ("NailStainModel", "batten", "[I", true)
  | 69 => ("NailStainModel", "squares", "[J", true)
  | 70 => ("NailStainModel", "rest", "[J", true)
  | 71 => ("NailStainModel", "sized", "I", false)
  | 72 => ("NailStainModel", "often", "[I", true)
  | 73 => ("NailStainModel", "tholes", "[I", true)
  | 74 => ("NailStainModel", "phosphors", "[I", true)
  | 75 => ("NailStainModel", "says", "[I", true)
  | 76 => ("NailStainModel", "isStory", "[Z", true)
  | 77 => ("NailStainModel", "signSeen", "[I", true)
  | 78 => ("NailStainModel", "jointsBelow", "I", false)
  | 79 => ("NailStainModel", "jointsLaid", "I", false)
  | _ => ("NailStainModel", "fewest", "[I", true)
def tyX12 : Nat → FieldType := fun k => match k with
  | 0 => .array .byte
  | 1 => .int
  | 2 => .int
  | 3 => .int
  | 4 => .int
  | 5 => .int
  | 6 => .array .int
  | 7 => .array .int
  | 8 => .array .int
  | 9 => .array .int
  | 10 => .array .int
  | 11 => .array .int
  | 12 => .array .int
  | 13 => .array .int
  | 14 => .array .int
  | 15 => .array .int
  | 16 => .array .int
  | 17 => .array .int
  | 18 => .array .int
  | 19 => .int
  | 20 => .int
  | 21 => .int
  | 22 => .int
  | 23 => .int
  | 24 => .int
  | 25 => .int
  | 26 => .boolean
  | 27 => .boolean
  | 28 => .array .int
  | 29 => .int
  | 30 => .int
  | 31 => .int
  | 32 => .int
  | 33 => .int
  | 34 => .int
  | 35 => .int
  | 36 => .int
  | 37 => .int
  | 38 => .int
  | 39 => .int
  | 40 => .int
  | 41 => .int
  | 42 => .array .int
  | 43 => .array .boolean
  | 44 => .array .int
  | 45 => .array .int
  | 46 => .array .boolean
  | 47 => .array .int
  | 48 => .array .int
  | 49 => .int
  | 50 => .int
  | 51 => .array .boolean
  | 52 => .array .int
  | 53 => .array .int
  | 54 => .int
  | 55 => .int
  | 56 => .int
  | 57 => .int
  | 58 => .int
  | 59 => .array .int
  | 60 => .array .int
  | 61 => .array .int
  | 62 => .array .int
  | 63 => .array .int
  | 64 => .array .boolean
  | 65 => .array .int
  | 66 => .array .boolean
  | 67 => .array .boolean
  | 68 => .array .int
  | 69 => .array .long
  | 70 => .array .long
  | 71 => .int
  | 72 => .array .int
  | 73 => .array .int
  | 74 => .array .int
  | 75 => .array .int
  | 76 => .array .boolean
  | 77 => .array .int
  | 78 => .int
  | 79 => .int
  | _ => .array .int
abbrev wsX120 : List Cond := u_ws RX12 TX12 81
theorem nmX12 : ∀ a, a < 81 → ∀ b, b < 81 → a ≠ b → (TX12 a).2.1 ≠ (TX12 b).2.1 := by decide +kernel
theorem tyX12_ok : ∀ k, k < 81 → parseFieldDescriptor (TX12 k).2.2.1 = some (tyX12 k) := by decide +kernel
abbrev cX0_init : ByteArray := prog_2_method_1_code
def yX0_init : MethodName := ⟨RX0, "<init>", "(LNailStain$Ship;)V"⟩
abbrev cX0_fall : ByteArray := prog_2_method_2_code
def yX0_fall : MethodName := ⟨RX0, "fall", "()V"⟩
abbrev cX0_begin : ByteArray := prog_2_method_3_code
def yX0_begin : MethodName := ⟨RX0, "begin", "()I"⟩
abbrev cX0_has : ByteArray := prog_2_method_4_code
def yX0_has : MethodName := ⟨RX0, "has", "(I)Z"⟩
abbrev cX0_areTwo : ByteArray := prog_2_method_5_code
def yX0_areTwo : MethodName := ⟨RX0, "areTwo", "(II)Z"⟩
abbrev cX0_hasMark : ByteArray := prog_2_method_6_code
def yX0_hasMark : MethodName := ⟨RX0, "hasMark", "(II)Z"⟩
abbrev cX0_put : ByteArray := prog_2_method_7_code
def yX0_put : MethodName := ⟨RX0, "put", "(IIII)V"⟩
abbrev cX0_at : ByteArray := prog_2_method_8_code
def yX0_at : MethodName := ⟨RX0, "at", "(III)I"⟩
abbrev cX0_take : ByteArray := prog_2_method_9_code
def yX0_take : MethodName := ⟨RX0, "take", "(IIII)V"⟩
abbrev cX0_marksOf : ByteArray := prog_2_method_10_code
def yX0_marksOf : MethodName := ⟨RX0, "marksOf", "(I)I"⟩
abbrev cX0_gather : ByteArray := prog_2_method_11_code
def yX0_gather : MethodName := ⟨RX0, "gather", "(III[I)I"⟩
abbrev cX0_common : ByteArray := prog_2_method_12_code
def yX0_common : MethodName := ⟨RX0, "common", "(II)I"⟩
abbrev cX0_shift : ByteArray := prog_2_method_13_code
def yX0_shift : MethodName := ⟨RX0, "shift", "(III)I"⟩
abbrev cX0_lowerMedian : ByteArray := prog_2_method_14_code
def yX0_lowerMedian : MethodName := ⟨RX0, "lowerMedian", "([II)I"⟩
abbrev cX0_rest : ByteArray := prog_2_method_15_code
def yX0_rest : MethodName := ⟨RX0, "rest", "(III)I"⟩
abbrev cX0_farther : ByteArray := prog_2_method_16_code
def yX0_farther : MethodName := ⟨RX0, "farther", "(III)I"⟩
abbrev cX0_distance : ByteArray := prog_2_method_17_code
def yX0_distance : MethodName := ⟨RX0, "distance", "(III)I"⟩
abbrev cX1_init : ByteArray := prog_3_method_1_code
def yX1_init : MethodName := ⟨RX1, "<init>", "(LNailStain$Ship;LNailStain$Lines;)V"⟩
abbrev cX1_isToldUpTo : ByteArray := prog_3_method_2_code
def yX1_isToldUpTo : MethodName := ⟨RX1, "isToldUpTo", "(II)Z"⟩
abbrev cX1_section : ByteArray := prog_3_method_3_code
def yX1_section : MethodName := ⟨RX1, "section", "(III)J"⟩
abbrev cX1_breadth : ByteArray := prog_3_method_4_code
def yX1_breadth : MethodName := ⟨RX1, "breadth", "(II)I"⟩
abbrev cX1_room : ByteArray := prog_3_method_5_code
def yX1_room : MethodName := ⟨RX1, "room", "(III)J"⟩
abbrev cX1_leastLine : ByteArray := prog_3_method_6_code
def yX1_leastLine : MethodName := ⟨RX1, "leastLine", "(III)I"⟩
abbrev cX1_whole : ByteArray := prog_3_method_7_code
def yX1_whole : MethodName := ⟨RX1, "whole", "(II)I"⟩
abbrev cX1_measure : ByteArray := prog_3_method_8_code
def yX1_measure : MethodName := ⟨RX1, "measure", "(II)V"⟩
abbrev cX1_layUpTo : ByteArray := prog_3_method_9_code
def yX1_layUpTo : MethodName := ⟨RX1, "layUpTo", "(III)Z"⟩
abbrev cX1_barNearMeetings : ByteArray := prog_3_method_10_code
def yX1_barNearMeetings : MethodName := ⟨RX1, "barNearMeetings", "()V"⟩
abbrev cX1_reaches : ByteArray := prog_3_method_11_code
def yX1_reaches : MethodName := ⟨RX1, "reaches", "(III)Z"⟩
abbrev cX1_reckonNeeded : ByteArray := prog_3_method_12_code
def yX1_reckonNeeded : MethodName := ⟨RX1, "reckonNeeded", "(I)V"⟩
abbrev cX1_joinPlanks : ByteArray := prog_3_method_13_code
def yX1_joinPlanks : MethodName := ⟨RX1, "joinPlanks", "(I)V"⟩
abbrev cX2_init : ByteArray := prog_4_method_1_code
def yX2_init : MethodName := ⟨RX2, "<init>", "(LNailStain$Ship;)V"⟩
abbrev cX2_lineAt : ByteArray := prog_4_method_2_code
def yX2_lineAt : MethodName := ⟨RX2, "lineAt", "(II)I"⟩
abbrev cX2_fits : ByteArray := prog_4_method_3_code
def yX2_fits : MethodName := ⟨RX2, "fits", "(II)Z"⟩
abbrev cX2_spread : ByteArray := prog_4_method_4_code
def yX2_spread : MethodName := ⟨RX2, "spread", "(II)Z"⟩
abbrev cX2_look : ByteArray := prog_4_method_5_code
def yX2_look : MethodName := ⟨RX2, "look", "(III)V"⟩
abbrev cX2_bridge : ByteArray := prog_4_method_6_code
def yX2_bridge : MethodName := ⟨RX2, "bridge", "(I)V"⟩
abbrev cX2_wide : ByteArray := prog_4_method_7_code
def yX2_wide : MethodName := ⟨RX2, "wide", "(I)I"⟩
abbrev cX2_lay : ByteArray := prog_4_method_8_code
def yX2_lay : MethodName := ⟨RX2, "lay", "(I)V"⟩
abbrev cX2_bend : ByteArray := prog_4_method_9_code
def yX2_bend : MethodName := ⟨RX2, "bend", "(II)V"⟩
abbrev cX2_pairOf : ByteArray := prog_4_method_10_code
def yX2_pairOf : MethodName := ⟨RX2, "pairOf", "(III)I"⟩
abbrev cX2_choose : ByteArray := prog_4_method_11_code
def yX2_choose : MethodName := ⟨RX2, "choose", "(IIIII)V"⟩
abbrev cX2_follow : ByteArray := prog_4_method_12_code
def yX2_follow : MethodName := ⟨RX2, "follow", "(I)V"⟩
abbrev cX2_beyond : ByteArray := prog_4_method_13_code
def yX2_beyond : MethodName := ⟨RX2, "beyond", "(II)I"⟩
abbrev cX3_init : ByteArray := prog_5_method_1_code
def yX3_init : MethodName := ⟨RX3, "<init>", "(LNailStain$Tape;)V"⟩
abbrev cX3_read : ByteArray := prog_5_method_2_code
def yX3_read : MethodName := ⟨RX3, "read", "(ILjava/lang/String;LNailStain$Text;)I"⟩
abbrev cX3_advance : ByteArray := prog_5_method_3_code
def yX3_advance : MethodName := ⟨RX3, "advance", "()V"⟩
abbrev cX3_refuse : ByteArray := prog_5_method_4_code
def yX3_refuse : MethodName := ⟨RX3, "refuse", "(I)V"⟩
abbrev cX3_take : ByteArray := prog_5_method_5_code
def yX3_take : MethodName := ⟨RX3, "take", "(Ljava/lang/String;)V"⟩
abbrev cX3_isOneOf : ByteArray := prog_5_method_6_code
def yX3_isOneOf : MethodName := ⟨RX3, "isOneOf", "(Ljava/lang/String;)Z"⟩
abbrev cX3_readClause : ByteArray := prog_5_method_7_code
def yX3_readClause : MethodName := ⟨RX3, "readClause", "(Ljava/lang/String;)V"⟩
abbrev cX3_opens : ByteArray := prog_5_method_8_code
def yX3_opens : MethodName := ⟨RX3, "opens", "()Z"⟩
abbrev cX3_readAny : ByteArray := prog_5_method_9_code
def yX3_readAny : MethodName := ⟨RX3, "readAny", "()V"⟩
abbrev cX3_readAll : ByteArray := prog_5_method_10_code
def yX3_readAll : MethodName := ⟨RX3, "readAll", "()V"⟩
abbrev cX3_readPiece : ByteArray := prog_5_method_11_code
def yX3_readPiece : MethodName := ⟨RX3, "readPiece", "()V"⟩
abbrev cX3_readSum : ByteArray := prog_5_method_12_code
def yX3_readSum : MethodName := ⟨RX3, "readSum", "()V"⟩
abbrev cX3_readProduct : ByteArray := prog_5_method_13_code
def yX3_readProduct : MethodName := ⟨RX3, "readProduct", "()V"⟩
abbrev cX3_readFactor : ByteArray := prog_5_method_14_code
def yX3_readFactor : MethodName := ⟨RX3, "readFactor", "()V"⟩
abbrev cX3_readNumber : ByteArray := prog_5_method_15_code
def yX3_readNumber : MethodName := ⟨RX3, "readNumber", "()V"⟩
abbrev cX4_init : ByteArray := prog_6_method_1_code
def yX4_init : MethodName := ⟨RX4, "<init>", "()V"⟩
abbrev cX4_stands : ByteArray := prog_6_method_2_code
def yX4_stands : MethodName := ⟨RX4, "stands", "()Z"⟩
abbrev cX4_rivetAt : ByteArray := prog_6_method_3_code
def yX4_rivetAt : MethodName := ⟨RX4, "rivetAt", "(III)I"⟩
abbrev cX4_allStations : ByteArray := prog_6_method_4_code
def yX4_allStations : MethodName := ⟨RX4, "allStations", "()I"⟩
abbrev cX4_luck : ByteArray := prog_6_method_5_code
def yX4_luck : MethodName := ⟨RX4, "luck", "()I"⟩
abbrev cX4_raise : ByteArray := prog_6_method_6_code
def yX4_raise : MethodName := ⟨RX4, "raise", "(IILNailStain$Text;)I"⟩
abbrev cX4_set : ByteArray := prog_6_method_7_code
def yX4_set : MethodName := ⟨RX4, "set", "(IIILNailStain$Text;)V"⟩
abbrev cX4_standAt : ByteArray := prog_6_method_8_code
def yX4_standAt : MethodName := ⟨RX4, "standAt", "(III)V"⟩
abbrev cX4_sink : ByteArray := prog_6_method_9_code
def yX4_sink : MethodName := ⟨RX4, "sink", "(ILNailStain$Text;)V"⟩
abbrev cX4_sinkOne : ByteArray := prog_6_method_10_code
def yX4_sinkOne : MethodName := ⟨RX4, "sinkOne", "(IIILNailStain$Text;)V"⟩
abbrev cX4_tell : ByteArray := prog_6_method_11_code
def yX4_tell : MethodName := ⟨RX4, "tell", "(IIII)V"⟩
abbrev cX4_lose : ByteArray := prog_6_method_12_code
def yX4_lose : MethodName := ⟨RX4, "lose", "(II)V"⟩
abbrev cX4_cutAway : ByteArray := prog_6_method_13_code
def yX4_cutAway : MethodName := ⟨RX4, "cutAway", "(I)V"⟩
abbrev cX4_touchAll : ByteArray := prog_6_method_14_code
def yX4_touchAll : MethodName := ⟨RX4, "touchAll", "()V"⟩
abbrev cX4_isCut : ByteArray := prog_6_method_15_code
def yX4_isCut : MethodName := ⟨RX4, "isCut", "(I)Z"⟩
abbrev cX4_isSeen : ByteArray := prog_6_method_16_code
def yX4_isSeen : MethodName := ⟨RX4, "isSeen", "(II)Z"⟩
abbrev cX4_left : ByteArray := prog_6_method_17_code
def yX4_left : MethodName := ⟨RX4, "left", "()I"⟩
abbrev cX5_init : ByteArray := prog_7_method_1_code
def yX5_init : MethodName := ⟨RX5, "<init>", "(LNailStain$Ship;)V"⟩
abbrev cX5_othersWith : ByteArray := prog_7_method_2_code
def yX5_othersWith : MethodName := ⟨RX5, "othersWith", "(I)I"⟩
abbrev cX5_sort : ByteArray := prog_7_method_3_code
def yX5_sort : MethodName := ⟨RX5, "sort", "(II)V"⟩
abbrev cX5_put : ByteArray := prog_7_method_4_code
def yX5_put : MethodName := ⟨RX5, "put", "(ZZ)V"⟩
abbrev cX5_usual : ByteArray := prog_7_method_5_code
def yX5_usual : MethodName := ⟨RX5, "usual", "()I"⟩
abbrev cX5_ways : ByteArray := prog_7_method_6_code
def yX5_ways : MethodName := ⟨RX5, "ways", "()J"⟩
abbrev cX5_waysAsOdd : ByteArray := prog_7_method_7_code
def yX5_waysAsOdd : MethodName := ⟨RX5, "waysAsOdd", "()J"⟩
abbrev cX5_choices : ByteArray := prog_7_method_8_code
def yX5_choices : MethodName := ⟨RX5, "choices", "(II)J"⟩
abbrev cX6_init : ByteArray := prog_8_method_1_code
def yX6_init : MethodName := ⟨RX6, "<init>", "()V"⟩
abbrev cX6_put : ByteArray := prog_8_method_2_code
def yX6_put : MethodName := ⟨RX6, "put", "(III)V"⟩
abbrev cX6_seek : ByteArray := prog_8_method_3_code
def yX6_seek : MethodName := ⟨RX6, "seek", "(II)V"⟩
abbrev cX6_weigh : ByteArray := prog_8_method_4_code
def yX6_weigh : MethodName := ⟨RX6, "weigh", "(III)V"⟩
abbrev cX6_amount : ByteArray := prog_8_method_5_code
def yX6_amount : MethodName := ⟨RX6, "amount", "(IIII)I"⟩
abbrev cX7_init : ByteArray := prog_9_method_1_code
def yX7_init : MethodName := ⟨RX7, "<init>", "()V"⟩
abbrev cX7_tell : ByteArray := prog_9_method_2_code
def yX7_tell : MethodName := ⟨RX7, "tell", "(III)V"⟩
abbrev cX7_told : ByteArray := prog_9_method_3_code
def yX7_told : MethodName := ⟨RX7, "told", "()I"⟩
abbrev cX7_product : ByteArray := prog_9_method_4_code
def yX7_product : MethodName := ⟨RX7, "product", "(I)J"⟩
abbrev cX7_together : ByteArray := prog_9_method_5_code
def yX7_together : MethodName := ⟨RX7, "together", "()J"⟩
abbrev cX7_partingMost : ByteArray := prog_9_method_6_code
def yX7_partingMost : MethodName := ⟨RX7, "partingMost", "()I"⟩
abbrev cX7_counts : ByteArray := prog_9_method_7_code
def yX7_counts : MethodName := ⟨RX7, "counts", "(I)Z"⟩
abbrev cX7_parted : ByteArray := prog_9_method_8_code
def yX7_parted : MethodName := ⟨RX7, "parted", "(I)I"⟩
abbrev cX8_init : ByteArray := prog_10_method_1_code
def yX8_init : MethodName := ⟨RX8, "<init>", "()V"⟩
abbrev cX8_hasRoom : ByteArray := prog_10_method_2_code
def yX8_hasRoom : MethodName := ⟨RX8, "hasRoom", "(I)Z"⟩
abbrev cX8_put : ByteArray := prog_10_method_3_code
def yX8_put : MethodName := ⟨RX8, "put", "(I)V"⟩
abbrev cX8_byteAt : ByteArray := prog_10_method_4_code
def yX8_byteAt : MethodName := ⟨RX8, "byteAt", "(I)I"⟩
abbrev cX8_numberAt : ByteArray := prog_10_method_5_code
def yX8_numberAt : MethodName := ⟨RX8, "numberAt", "(I)I"⟩
abbrev cX8_empty : ByteArray := prog_10_method_6_code
def yX8_empty : MethodName := ⟨RX8, "empty", "()V"⟩
abbrev cX9_init : ByteArray := prog_11_method_1_code
def yX9_init : MethodName := ⟨RX9, "<init>", "()V"⟩
abbrev cX9_clear : ByteArray := prog_11_method_2_code
def yX9_clear : MethodName := ⟨RX9, "clear", "()V"⟩
abbrev cX9_beginClause : ByteArray := prog_11_method_3_code
def yX9_beginClause : MethodName := ⟨RX9, "beginClause", "(I)V"⟩
abbrev cX9_beginCondition : ByteArray := prog_11_method_4_code
def yX9_beginCondition : MethodName := ⟨RX9, "beginCondition", "()V"⟩
abbrev cX9_add : ByteArray := prog_11_method_5_code
def yX9_add : MethodName := ⟨RX9, "add", "(II)I"⟩
abbrev cX9_landHere : ByteArray := prog_11_method_6_code
def yX9_landHere : MethodName := ⟨RX9, "landHere", "(I)V"⟩
abbrev cX9_value : ByteArray := prog_11_method_7_code
def yX9_value : MethodName := ⟨RX9, "value", "(I[III)I"⟩
abbrev cX9_run : ByteArray := prog_11_method_8_code
def yX9_run : MethodName := ⟨RX9, "run", "(I[I)I"⟩
abbrev cX9_stepOn : ByteArray := prog_11_method_9_code
def yX9_stepOn : MethodName := ⟨RX9, "stepOn", "(I[I)I"⟩
abbrev cX9_push : ByteArray := prog_11_method_10_code
def yX9_push : MethodName := ⟨RX9, "push", "(I)V"⟩
abbrev cX9_pop : ByteArray := prog_11_method_11_code
def yX9_pop : MethodName := ⟨RX9, "pop", "()I"⟩
abbrev cX9_reckon : ByteArray := prog_11_method_12_code
def yX9_reckon : MethodName := ⟨RX9, "reckon", "(III)I"⟩
abbrev cX10_init : ByteArray := prog_12_method_1_code
def yX10_init : MethodName := ⟨RX10, "<init>", "(LNailStain$Ship;)V"⟩
abbrev cX10_fall : ByteArray := prog_12_method_2_code
def yX10_fall : MethodName := ⟨RX10, "fall", "()V"⟩
abbrev cX10_tell : ByteArray := prog_12_method_3_code
def yX10_tell : MethodName := ⟨RX10, "tell", "(III)V"⟩
abbrev cX10_at : ByteArray := prog_12_method_4_code
def yX10_at : MethodName := ⟨RX10, "at", "(II)I"⟩
abbrev cX10_pairsWithout : ByteArray := prog_12_method_5_code
def yX10_pairsWithout : MethodName := ⟨RX10, "pairsWithout", "(II)I"⟩
abbrev cX10_pairsSeen : ByteArray := prog_12_method_6_code
def yX10_pairsSeen : MethodName := ⟨RX10, "pairsSeen", "()I"⟩
abbrev cX10_pairsThatMayBe : ByteArray := prog_12_method_7_code
def yX10_pairsThatMayBe : MethodName := ⟨RX10, "pairsThatMayBe", "()I"⟩
abbrev cX10_those : ByteArray := prog_12_method_8_code
def yX10_those : MethodName := ⟨RX10, "those", "(I)I"⟩
abbrev cX10_known : ByteArray := prog_12_method_9_code
def yX10_known : MethodName := ⟨RX10, "known", "()I"⟩
abbrev cX10_seen : ByteArray := prog_12_method_10_code
def yX10_seen : MethodName := ⟨RX10, "seen", "()I"⟩
abbrev cX10_above : ByteArray := prog_12_method_11_code
def yX10_above : MethodName := ⟨RX10, "above", "(II)I"⟩
abbrev cX10_below : ByteArray := prog_12_method_12_code
def yX10_below : MethodName := ⟨RX10, "below", "(II)I"⟩
abbrev cX11_init : ByteArray := prog_1_method_1_code
def yX11_init : MethodName := ⟨RX11, "<init>", "()V"⟩
abbrev cX11_pitch : ByteArray := prog_1_method_2_code
def yX11_pitch : MethodName := ⟨RX11, "pitch", "(I)Z"⟩
abbrev cX11_seed : ByteArray := prog_1_method_3_code
def yX11_seed : MethodName := ⟨RX11, "seed", "(I)Z"⟩
abbrev cX11_feed : ByteArray := prog_1_method_4_code
def yX11_feed : MethodName := ⟨RX11, "feed", "(IIIII)I"⟩
abbrev cX11_rule : ByteArray := prog_1_method_5_code
def yX11_rule : MethodName := ⟨RX11, "rule", "(I)I"⟩
abbrev cX11_sand : ByteArray := prog_1_method_6_code
def yX11_sand : MethodName := ⟨RX11, "sand", "(I)I"⟩
abbrev cX11_stain : ByteArray := prog_1_method_7_code
def yX11_stain : MethodName := ⟨RX11, "stain", "(I)I"⟩
abbrev cX11_readText : ByteArray := prog_1_method_8_code
def yX11_readText : MethodName := ⟨RX11, "readText", "(IILjava/lang/String;)I"⟩
abbrev cX11_build : ByteArray := prog_1_method_9_code
def yX11_build : MethodName := ⟨RX11, "build", "(II)I"⟩
abbrev cX11_mound : ByteArray := prog_1_method_10_code
def yX11_mound : MethodName := ⟨RX11, "mound", "(II)Z"⟩
abbrev cX11_bury : ByteArray := prog_1_method_11_code
def yX11_bury : MethodName := ⟨RX11, "bury", "(I)I"⟩
abbrev cX11_lies : ByteArray := prog_1_method_12_code
def yX11_lies : MethodName := ⟨RX11, "lies", "(IIIII)Z"⟩
abbrev cX11_gone : ByteArray := prog_1_method_13_code
def yX11_gone : MethodName := ⟨RX11, "gone", "(III)Z"⟩
abbrev cX11_rivet : ByteArray := prog_1_method_14_code
def yX11_rivet : MethodName := ⟨RX11, "rivet", "(IIII)I"⟩
abbrev cX11_cut : ByteArray := prog_1_method_15_code
def yX11_cut : MethodName := ⟨RX11, "cut", "(I)Z"⟩
abbrev cX11_drawing : ByteArray := prog_1_method_16_code
def yX11_drawing : MethodName := ⟨RX11, "drawing", "(I)I"⟩
abbrev cX11_mark : ByteArray := prog_1_method_17_code
def yX11_mark : MethodName := ⟨RX11, "mark", "(IIIIII)Z"⟩
abbrev cX11_draw : ByteArray := prog_1_method_18_code
def yX11_draw : MethodName := ⟨RX11, "draw", "(IIII)I"⟩
abbrev cX11_marked : ByteArray := prog_1_method_19_code
def yX11_marked : MethodName := ⟨RX11, "marked", "(IIIII)I"⟩
abbrev cX11_joined : ByteArray := prog_1_method_20_code
def yX11_joined : MethodName := ⟨RX11, "joined", "(III)I"⟩
abbrev cX11_off : ByteArray := prog_1_method_21_code
def yX11_off : MethodName := ⟨RX11, "off", "(III)I"⟩
abbrev cX11_slipped : ByteArray := prog_1_method_22_code
def yX11_slipped : MethodName := ⟨RX11, "slipped", "(IIIIII)I"⟩
abbrev cX11_span : ByteArray := prog_1_method_23_code
def yX11_span : MethodName := ⟨RX11, "span", "(IIII)I"⟩
abbrev cX11_batten : ByteArray := prog_1_method_24_code
def yX11_batten : MethodName := ⟨RX11, "batten", "(III)J"⟩
abbrev cX11_lost : ByteArray := prog_1_method_25_code
def yX11_lost : MethodName := ⟨RX11, "lost", "(III)I"⟩
abbrev cX11_size : ByteArray := prog_1_method_26_code
def yX11_size : MethodName := ⟨RX11, "size", "(IIII)Z"⟩
abbrev cX11_repairs : ByteArray := prog_1_method_27_code
def yX11_repairs : MethodName := ⟨RX11, "repairs", "(III)J"⟩
abbrev cX11_thole : ByteArray := prog_1_method_28_code
def yX11_thole : MethodName := ⟨RX11, "thole", "(III)Z"⟩
abbrev cX11_oars : ByteArray := prog_1_method_29_code
def yX11_oars : MethodName := ⟨RX11, "oars", "(I)I"⟩
abbrev cX11_pair : ByteArray := prog_1_method_30_code
def yX11_pair : MethodName := ⟨RX11, "pair", "(II)J"⟩
abbrev cX11_phosphor : ByteArray := prog_1_method_31_code
def yX11_phosphor : MethodName := ⟨RX11, "phosphor", "(III)Z"⟩
abbrev cX11_body : ByteArray := prog_1_method_32_code
def yX11_body : MethodName := ⟨RX11, "body", "(III)I"⟩
abbrev cX11_story : ByteArray := prog_1_method_33_code
def yX11_story : MethodName := ⟨RX11, "story", "(III)Z"⟩
abbrev cX11_sign : ByteArray := prog_1_method_34_code
def yX11_sign : MethodName := ⟨RX11, "sign", "(II)Z"⟩
abbrev cX11_odds : ByteArray := prog_1_method_35_code
def yX11_odds : MethodName := ⟨RX11, "odds", "(I)J"⟩
abbrev cX11_next : ByteArray := prog_1_method_36_code
def yX11_next : MethodName := ⟨RX11, "next", "(I)I"⟩
abbrev cX11_area : ByteArray := prog_1_method_37_code
def yX11_area : MethodName := ⟨RX11, "area", "(IIII)J"⟩
abbrev cX11_volume : ByteArray := prog_1_method_38_code
def yX11_volume : MethodName := ⟨RX11, "volume", "(III)J"⟩
abbrev cX11_depth : ByteArray := prog_1_method_39_code
def yX11_depth : MethodName := ⟨RX11, "depth", "(III)I"⟩
abbrev cX11_pace : ByteArray := prog_1_method_40_code
def yX11_pace : MethodName := ⟨RX11, "pace", "(I)I"⟩
abbrev cX11_length : ByteArray := prog_1_method_41_code
def yX11_length : MethodName := ⟨RX11, "length", "(II)I"⟩
abbrev cX11_joints : ByteArray := prog_1_method_42_code
def yX11_joints : MethodName := ⟨RX11, "joints", "(IIII)I"⟩
abbrev cX11_lasts : ByteArray := prog_1_method_43_code
def yX11_lasts : MethodName := ⟨RX11, "lasts", "(II)I"⟩
abbrev cX11_check : ByteArray := prog_1_method_44_code
def yX11_check : MethodName := ⟨RX11, "check", "(III)I"⟩
abbrev cX11_firstWrong : ByteArray := prog_1_method_45_code
def yX11_firstWrong : MethodName := ⟨RX11, "firstWrong", "(II)I"⟩
abbrev cX11_count : ByteArray := prog_1_method_46_code
def yX11_count : MethodName := ⟨RX11, "count", "(I)I"⟩
abbrev cX11_within : ByteArray := prog_1_method_47_code
def yX11_within : MethodName := ⟨RX11, "within", "(III)Z"⟩
abbrev cX11_held : ByteArray := prog_1_method_48_code
def yX11_held : MethodName := ⟨RX11, "held", "(III)I"⟩
abbrev cX11_root : ByteArray := prog_1_method_49_code
def yX11_root : MethodName := ⟨RX11, "root", "(I)I"⟩
abbrev cX11_reduced : ByteArray := prog_1_method_50_code
def yX11_reduced : MethodName := ⟨RX11, "reduced", "(JJZ)J"⟩
abbrev cX11_commonDivisor : ByteArray := prog_1_method_51_code
def yX11_commonDivisor : MethodName := ⟨RX11, "commonDivisor", "(JJ)J"⟩
abbrev cX12_init : ByteArray := prog_14_method_1_code
def yX12_init : MethodName := ⟨RX12, "<init>", "()V"⟩
abbrev cX12_has : ByteArray := prog_14_method_2_code
def yX12_has : MethodName := ⟨RX12, "has", "(JI)Z"⟩
abbrev cX12_plain : ByteArray := prog_14_method_3_code
def yX12_plain : MethodName := ⟨RX12, "plain", "(I)I"⟩
abbrev cX12_held : ByteArray := prog_14_method_4_code
def yX12_held : MethodName := ⟨RX12, "held", "(II)I"⟩
abbrev cX12_pitch : ByteArray := prog_14_method_5_code
def yX12_pitch : MethodName := ⟨RX12, "pitch", "(I)Z"⟩
abbrev cX12_isIn : ByteArray := prog_14_method_6_code
def yX12_isIn : MethodName := ⟨RX12, "isIn", "(JJJ)Z"⟩
abbrev cX12_seed : ByteArray := prog_14_method_7_code
def yX12_seed : MethodName := ⟨RX12, "seed", "(I)Z"⟩
abbrev cX12_draws : ByteArray := prog_14_method_8_code
def yX12_draws : MethodName := ⟨RX12, "draws", "()V"⟩
abbrev cX12_push : ByteArray := prog_14_method_9_code
def yX12_push : MethodName := ⟨RX12, "push", "(I)V"⟩
abbrev cX12_feed : ByteArray := prog_14_method_10_code
def yX12_feed : MethodName := ⟨RX12, "feed", "(IIIII)I"⟩
abbrev cX12_here : ByteArray := prog_14_method_11_code
def yX12_here : MethodName := ⟨RX12, "here", "()I"⟩
abbrev cX12_wrongs : ByteArray := prog_14_method_12_code
def yX12_wrongs : MethodName := ⟨RX12, "wrongs", "(II)V"⟩
abbrev cX12_isGood : ByteArray := prog_14_method_13_code
def yX12_isGood : MethodName := ⟨RX12, "isGood", "()Z"⟩
abbrev cX12_emit : ByteArray := prog_14_method_14_code
def yX12_emit : MethodName := ⟨RX12, "emit", "(II)V"⟩
abbrev cX12_top : ByteArray := prog_14_method_15_code
def yX12_top : MethodName := ⟨RX12, "top", "()I"⟩
abbrev cX12_puts : ByteArray := prog_14_method_16_code
def yX12_puts : MethodName := ⟨RX12, "puts", "(I)V"⟩
abbrev cX12_opens : ByteArray := prog_14_method_17_code
def yX12_opens : MethodName := ⟨RX12, "opens", "()V"⟩
abbrev cX12_seesDigit : ByteArray := prog_14_method_18_code
def yX12_seesDigit : MethodName := ⟨RX12, "seesDigit", "()Z"⟩
abbrev cX12_reads : ByteArray := prog_14_method_19_code
def yX12_reads : MethodName := ⟨RX12, "reads", "()I"⟩
abbrev cX12_isTimes : ByteArray := prog_14_method_20_code
def yX12_isTimes : MethodName := ⟨RX12, "isTimes", "(I)Z"⟩
abbrev cX12_isPlus : ByteArray := prog_14_method_21_code
def yX12_isPlus : MethodName := ⟨RX12, "isPlus", "(I)Z"⟩
abbrev cX12_isSign : ByteArray := prog_14_method_22_code
def yX12_isSign : MethodName := ⟨RX12, "isSign", "(I)Z"⟩
abbrev cX12_isValue : ByteArray := prog_14_method_23_code
def yX12_isValue : MethodName := ⟨RX12, "isValue", "(I)Z"⟩
abbrev cX12_sums : ByteArray := prog_14_method_24_code
def yX12_sums : MethodName := ⟨RX12, "sums", "(Z)V"⟩
abbrev cX12_joins : ByteArray := prog_14_method_25_code
def yX12_joins : MethodName := ⟨RX12, "joins", "(Z)V"⟩
abbrev cX12_ends : ByteArray := prog_14_method_26_code
def yX12_ends : MethodName := ⟨RX12, "ends", "()V"⟩
abbrev cX12_factor : ByteArray := prog_14_method_27_code
def yX12_factor : MethodName := ⟨RX12, "factor", "()V"⟩
abbrev cX12_stays : ByteArray := prog_14_method_28_code
def yX12_stays : MethodName := ⟨RX12, "stays", "()Z"⟩
abbrev cX12_value : ByteArray := prog_14_method_29_code
def yX12_value : MethodName := ⟨RX12, "value", "()V"⟩
abbrev cX12_pieceOfC : ByteArray := prog_14_method_30_code
def yX12_pieceOfC : MethodName := ⟨RX12, "pieceOfC", "()V"⟩
abbrev cX12_goesBehind : ByteArray := prog_14_method_31_code
def yX12_goesBehind : MethodName := ⟨RX12, "goesBehind", "()Z"⟩
abbrev cX12_condition : ByteArray := prog_14_method_32_code
def yX12_condition : MethodName := ⟨RX12, "condition", "()V"⟩
abbrev cX12_isClause : ByteArray := prog_14_method_33_code
def yX12_isClause : MethodName := ⟨RX12, "isClause", "(II)Z"⟩
abbrev cX12_clause : ByteArray := prog_14_method_34_code
def yX12_clause : MethodName := ⟨RX12, "clause", "(I)V"⟩
abbrev cX12_readsText : ByteArray := prog_14_method_35_code
def yX12_readsText : MethodName := ⟨RX12, "readsText", "(II)I"⟩
abbrev cX12_rule : ByteArray := prog_14_method_36_code
def yX12_rule : MethodName := ⟨RX12, "rule", "(I)I"⟩
abbrev cX12_sand : ByteArray := prog_14_method_37_code
def yX12_sand : MethodName := ⟨RX12, "sand", "(I)I"⟩
abbrev cX12_stain : ByteArray := prog_14_method_38_code
def yX12_stain : MethodName := ⟨RX12, "stain", "(I)I"⟩
abbrev cX12_clears : ByteArray := prog_14_method_39_code
def yX12_clears : MethodName := ⟨RX12, "clears", "()V"⟩
abbrev cX12_valueOf : ByteArray := prog_14_method_40_code
def yX12_valueOf : MethodName := ⟨RX12, "valueOf", "(I)I"⟩
abbrev cX12_worked : ByteArray := prog_14_method_41_code
def yX12_worked : MethodName := ⟨RX12, "worked", "(III)I"⟩
abbrev cX12_does : ByteArray := prog_14_method_42_code
def yX12_does : MethodName := ⟨RX12, "does", "(II)V"⟩
abbrev cX12_works : ByteArray := prog_14_method_43_code
def yX12_works : MethodName := ⟨RX12, "works", "(II)V"⟩
abbrev cX12_tells : ByteArray := prog_14_method_44_code
def yX12_tells : MethodName := ⟨RX12, "tells", "(IIII)I"⟩
abbrev cX12_cellOf : ByteArray := prog_14_method_45_code
def yX12_cellOf : MethodName := ⟨RX12, "cellOf", "(III)I"⟩
abbrev cX12_isStation : ByteArray := prog_14_method_46_code
def yX12_isStation : MethodName := ⟨RX12, "isStation", "(I)Z"⟩
abbrev cX12_isStrake : ByteArray := prog_14_method_47_code
def yX12_isStrake : MethodName := ⟨RX12, "isStrake", "(I)Z"⟩
abbrev cX12_isRivet : ByteArray := prog_14_method_48_code
def yX12_isRivet : MethodName := ⟨RX12, "isRivet", "(III)Z"⟩
abbrev cX12_isSeen : ByteArray := prog_14_method_49_code
def yX12_isSeen : MethodName := ⟨RX12, "isSeen", "(III)Z"⟩
abbrev cX12_stands : ByteArray := prog_14_method_50_code
def yX12_stands : MethodName := ⟨RX12, "stands", "(III)V"⟩
abbrev cX12_build : ByteArray := prog_14_method_51_code
def yX12_build : MethodName := ⟨RX12, "build", "(II)I"⟩
abbrev cX12_mound : ByteArray := prog_14_method_52_code
def yX12_mound : MethodName := ⟨RX12, "mound", "(II)Z"⟩
abbrev cX12_left : ByteArray := prog_14_method_53_code
def yX12_left : MethodName := ⟨RX12, "left", "()I"⟩
abbrev cX12_sinks : ByteArray := prog_14_method_54_code
def yX12_sinks : MethodName := ⟨RX12, "sinks", "(III)V"⟩
abbrev cX12_bury : ByteArray := prog_14_method_55_code
def yX12_bury : MethodName := ⟨RX12, "bury", "(I)I"⟩
abbrev cX12_lies : ByteArray := prog_14_method_56_code
def yX12_lies : MethodName := ⟨RX12, "lies", "(IIIII)Z"⟩
abbrev cX12_gone : ByteArray := prog_14_method_57_code
def yX12_gone : MethodName := ⟨RX12, "gone", "(III)Z"⟩
abbrev cX12_rivet : ByteArray := prog_14_method_58_code
def yX12_rivet : MethodName := ⟨RX12, "rivet", "(IIII)I"⟩
abbrev cX12_cut : ByteArray := prog_14_method_59_code
def yX12_cut : MethodName := ⟨RX12, "cut", "(I)Z"⟩
abbrev cX12_isDrawing : ByteArray := prog_14_method_60_code
def yX12_isDrawing : MethodName := ⟨RX12, "isDrawing", "(I)Z"⟩
abbrev cX12_drawing : ByteArray := prog_14_method_61_code
def yX12_drawing : MethodName := ⟨RX12, "drawing", "(I)I"⟩
abbrev cX12_marks : ByteArray := prog_14_method_62_code
def yX12_marks : MethodName := ⟨RX12, "marks", "(IIII)V"⟩
abbrev cX12_mark : ByteArray := prog_14_method_63_code
def yX12_mark : MethodName := ⟨RX12, "mark", "(IIIIII)Z"⟩
abbrev cX12_draw : ByteArray := prog_14_method_64_code
def yX12_draw : MethodName := ⟨RX12, "draw", "(IIII)I"⟩
abbrev cX12_marked : ByteArray := prog_14_method_65_code
def yX12_marked : MethodName := ⟨RX12, "marked", "(IIIII)I"⟩
abbrev cX12_hasBoth : ByteArray := prog_14_method_66_code
def yX12_hasBoth : MethodName := ⟨RX12, "hasBoth", "(III)Z"⟩
abbrev cX12_gapOf : ByteArray := prog_14_method_67_code
def yX12_gapOf : MethodName := ⟨RX12, "gapOf", "(IIIZ)I"⟩
abbrev cX12_middle : ByteArray := prog_14_method_68_code
def yX12_middle : MethodName := ⟨RX12, "middle", "(IIZ)I"⟩
abbrev cX12_leftBy : ByteArray := prog_14_method_69_code
def yX12_leftBy : MethodName := ⟨RX12, "leftBy", "(I)I"⟩
abbrev cX12_joinsBoth : ByteArray := prog_14_method_70_code
def yX12_joinsBoth : MethodName := ⟨RX12, "joinsBoth", "(II)V"⟩
abbrev cX12_areTwo : ByteArray := prog_14_method_71_code
def yX12_areTwo : MethodName := ⟨RX12, "areTwo", "(II)Z"⟩
abbrev cX12_joined : ByteArray := prog_14_method_72_code
def yX12_joined : MethodName := ⟨RX12, "joined", "(III)I"⟩
abbrev cX12_off : ByteArray := prog_14_method_73_code
def yX12_off : MethodName := ⟨RX12, "off", "(III)I"⟩
abbrev cX12_farFrom : ByteArray := prog_14_method_74_code
def yX12_farFrom : MethodName := ⟨RX12, "farFrom", "(III)I"⟩
abbrev cX12_slipped : ByteArray := prog_14_method_75_code
def yX12_slipped : MethodName := ⟨RX12, "slipped", "(IIIIII)I"⟩
abbrev cX12_changes : ByteArray := prog_14_method_76_code
def yX12_changes : MethodName := ⟨RX12, "changes", "()V"⟩
abbrev cX12_sees : ByteArray := prog_14_method_77_code
def yX12_sees : MethodName := ⟨RX12, "sees", "(II)V"⟩
abbrev cX12_spans : ByteArray := prog_14_method_78_code
def yX12_spans : MethodName := ⟨RX12, "spans", "(II)Z"⟩
abbrev cX12_isOut : ByteArray := prog_14_method_79_code
def yX12_isOut : MethodName := ⟨RX12, "isOut", "(I)Z"⟩
abbrev cX12_span : ByteArray := prog_14_method_80_code
def yX12_span : MethodName := ⟨RX12, "span", "(IIII)I"⟩
abbrev cX12_pairOf : ByteArray := prog_14_method_81_code
def yX12_pairOf : MethodName := ⟨RX12, "pairOf", "(III)I"⟩
abbrev cX12_widthOf : ByteArray := prog_14_method_82_code
def yX12_widthOf : MethodName := ⟨RX12, "widthOf", "(I)I"⟩
abbrev cX12_bentBy : ByteArray := prog_14_method_83_code
def yX12_bentBy : MethodName := ⟨RX12, "bentBy", "(IIII)J"⟩
abbrev cX12_fromPair : ByteArray := prog_14_method_84_code
def yX12_fromPair : MethodName := ⟨RX12, "fromPair", "(III)J"⟩
abbrev cX12_bends : ByteArray := prog_14_method_85_code
def yX12_bends : MethodName := ⟨RX12, "bends", "(I)V"⟩
abbrev cX12_isBent : ByteArray := prog_14_method_86_code
def yX12_isBent : MethodName := ⟨RX12, "isBent", "(II)Z"⟩
abbrev cX12_bentAt : ByteArray := prog_14_method_87_code
def yX12_bentAt : MethodName := ⟨RX12, "bentAt", "(II)I"⟩
abbrev cX12_batten : ByteArray := prog_14_method_88_code
def yX12_batten : MethodName := ⟨RX12, "batten", "(III)J"⟩
abbrev cX12_lost : ByteArray := prog_14_method_89_code
def yX12_lost : MethodName := ⟨RX12, "lost", "(III)I"⟩
abbrev cX12_size : ByteArray := prog_14_method_90_code
def yX12_size : MethodName := ⟨RX12, "size", "(IIII)Z"⟩
abbrev cX12_commonSize : ByteArray := prog_14_method_91_code
def yX12_commonSize : MethodName := ⟨RX12, "commonSize", "()I"⟩
abbrev cX12_choices : ByteArray := prog_14_method_92_code
def yX12_choices : MethodName := ⟨RX12, "choices", "(II)J"⟩
abbrev cX12_divisor : ByteArray := prog_14_method_93_code
def yX12_divisor : MethodName := ⟨RX12, "divisor", "(JJ)J"⟩
abbrev cX12_repairs : ByteArray := prog_14_method_94_code
def yX12_repairs : MethodName := ⟨RX12, "repairs", "(III)J"⟩
abbrev cX12_thole : ByteArray := prog_14_method_95_code
def yX12_thole : MethodName := ⟨RX12, "thole", "(III)Z"⟩
abbrev cX12_tholeOf : ByteArray := prog_14_method_96_code
def yX12_tholeOf : MethodName := ⟨RX12, "tholeOf", "(II)I"⟩
abbrev cX12_tholesThat : ByteArray := prog_14_method_97_code
def yX12_tholesThat : MethodName := ⟨RX12, "tholesThat", "(I)I"⟩
abbrev cX12_oars : ByteArray := prog_14_method_98_code
def yX12_oars : MethodName := ⟨RX12, "oars", "(I)I"⟩
abbrev cX12_pair : ByteArray := prog_14_method_99_code
def yX12_pair : MethodName := ⟨RX12, "pair", "(II)J"⟩
abbrev cX12_phosphor : ByteArray := prog_14_method_100_code
def yX12_phosphor : MethodName := ⟨RX12, "phosphor", "(III)Z"⟩
abbrev cX12_muchAt : ByteArray := prog_14_method_101_code
def yX12_muchAt : MethodName := ⟨RX12, "muchAt", "(IIII)I"⟩
abbrev cX12_body : ByteArray := prog_14_method_102_code
def yX12_body : MethodName := ⟨RX12, "body", "(III)I"⟩
abbrev cX12_story : ByteArray := prog_14_method_103_code
def yX12_story : MethodName := ⟨RX12, "story", "(III)Z"⟩
abbrev cX12_sign : ByteArray := prog_14_method_104_code
def yX12_sign : MethodName := ⟨RX12, "sign", "(II)Z"⟩
abbrev cX12_oddsOf : ByteArray := prog_14_method_105_code
def yX12_oddsOf : MethodName := ⟨RX12, "oddsOf", "(I)J"⟩
abbrev cX12_storiesTold : ByteArray := prog_14_method_106_code
def yX12_storiesTold : MethodName := ⟨RX12, "storiesTold", "()I"⟩
abbrev cX12_odds : ByteArray := prog_14_method_107_code
def yX12_odds : MethodName := ⟨RX12, "odds", "(I)J"⟩
abbrev cX12_canBe : ByteArray := prog_14_method_108_code
def yX12_canBe : MethodName := ⟨RX12, "canBe", "(I)Z"⟩
abbrev cX12_next : ByteArray := prog_14_method_109_code
def yX12_next : MethodName := ⟨RX12, "next", "(I)I"⟩
abbrev cX12_areBent : ByteArray := prog_14_method_110_code
def yX12_areBent : MethodName := ⟨RX12, "areBent", "(I)Z"⟩
abbrev cX12_areaOf : ByteArray := prog_14_method_111_code
def yX12_areaOf : MethodName := ⟨RX12, "areaOf", "(III)J"⟩
abbrev cX12_isHeight : ByteArray := prog_14_method_112_code
def yX12_isHeight : MethodName := ⟨RX12, "isHeight", "(I)Z"⟩
abbrev cX12_area : ByteArray := prog_14_method_113_code
def yX12_area : MethodName := ⟨RX12, "area", "(IIII)J"⟩
abbrev cX12_volumeOf : ByteArray := prog_14_method_114_code
def yX12_volumeOf : MethodName := ⟨RX12, "volumeOf", "(II)J"⟩
abbrev cX12_volume : ByteArray := prog_14_method_115_code
def yX12_volume : MethodName := ⟨RX12, "volume", "(III)J"⟩
abbrev cX12_depth : ByteArray := prog_14_method_116_code
def yX12_depth : MethodName := ⟨RX12, "depth", "(III)I"⟩
abbrev cX12_rootOf : ByteArray := prog_14_method_117_code
def yX12_rootOf : MethodName := ⟨RX12, "rootOf", "(J)I"⟩
abbrev cX12_pace : ByteArray := prog_14_method_118_code
def yX12_pace : MethodName := ⟨RX12, "pace", "(I)I"⟩
abbrev cX12_partOf : ByteArray := prog_14_method_119_code
def yX12_partOf : MethodName := ⟨RX12, "partOf", "(II)I"⟩
abbrev cX12_lengthOf : ByteArray := prog_14_method_120_code
def yX12_lengthOf : MethodName := ⟨RX12, "lengthOf", "(III)I"⟩
abbrev cX12_length : ByteArray := prog_14_method_121_code
def yX12_length : MethodName := ⟨RX12, "length", "(II)I"⟩
abbrev cX12_mayJoin : ByteArray := prog_14_method_122_code
def yX12_mayJoin : MethodName := ⟨RX12, "mayJoin", "(I)Z"⟩
abbrev cX12_laysPlanks : ByteArray := prog_14_method_123_code
def yX12_laysPlanks : MethodName := ⟨RX12, "laysPlanks", "(II)Z"⟩
abbrev cX12_joints : ByteArray := prog_14_method_124_code
def yX12_joints : MethodName := ⟨RX12, "joints", "(IIII)I"⟩
abbrev cX12_lasts : ByteArray := prog_14_method_125_code
def yX12_lasts : MethodName := ⟨RX12, "lasts", "(II)I"⟩
abbrev cX12_numberAt : ByteArray := prog_14_method_126_code
def yX12_numberAt : MethodName := ⟨RX12, "numberAt", "(I)I"⟩
abbrev cX12_check : ByteArray := prog_14_method_127_code
def yX12_check : MethodName := ⟨RX12, "check", "(III)I"⟩
abbrev cX12_marksOf : ByteArray := prog_14_method_128_code
def yX12_marksOf : MethodName := ⟨RX12, "marksOf", "(I)I"⟩
abbrev cX12_count : ByteArray := prog_14_method_129_code
def yX12_count : MethodName := ⟨RX12, "count", "(I)I"⟩
def RJ7 : String := "java/util/Arrays"
abbrev cJ7_fill_53178 : ByteArray := prog_20_method_103_code
def yJ7_fill_53178 : MethodName := ⟨RJ7, "fill", "([II)V"⟩
def RL : String := "NailStainLaw"
abbrev vwCl : List vw_C := [(RX0, TX0, 7), (RX1, TX1, 7), (RX2, TX2, 12), (RX3, TX3, 7), (RX4, TX4, 11), (RX5, TX5, 6), (RX6, TX6, 6), (RX7, TX7, 3), (RX8, TX8, 2), (RX9, TX9, 9), (RX10, TX10, 2), (RX11, TX11, 13), (RX12, TX12, 81)]
end
section
/-! The ground of all contracts here: one list of words, one context, readers and writers. -/
def TBL : List Cond := lw_tbl.filter goodWord
theorem tb_good : GoodIn TBL TBL := fun w h => ⟨h, good_of_word (List.mem_filter.mp h).2⟩
theorem tb_ix {w : Cond} (i : Nat) (h : lw_tbl[i]? = some w) (hg : goodWord w = true) : w ∈ TBL := List.mem_filter.mpr ⟨List.mem_of_getElem? h, hg⟩
def wNest : Cond → Bool
  | .fieldLinkNest .. => true
  | .methodLinkNest .. => true
  | _ => false
def NWs : List Cond := lw_tbl.filter wNest
theorem nw_ix {w : Cond} (i : Nat) (h : lw_tbl[i]? = some w) (hg : wNest w = true) : w ∈ NWs := List.mem_filter.mpr ⟨List.mem_of_getElem? h, hg⟩
theorem nw_warm {w : Cond} (hw : wNest w = true) {s U : State} (hW : s.WarmedH U.vm) (h : va_Nw w s) : va_Nw w U := by
  cases w <;> first | (simp [wNest] at hw; done) | exact va_Nw.warmF hW h | exact va_Nw.warmM hW h
theorem nw_same {w : Cond} (hw : wNest w = true) {s U : State} (hv : s.vm = U.vm) (h : va_Nw w s) : va_Nw w U := by
  cases w <;> first | (simp [wNest] at hw; done) | exact va_Nw.same rfl hv h
abbrev TYS (cI cB cZ cJ : ClassId) (tx : List (ClassId × FieldType)) : List (ClassId × FieldType) := (cI, .int) :: (cB, .byte) :: (cZ, .boolean) :: (cJ, .long) :: tx
def KX (D : va_G) (cI cB cZ cJ : ClassId) (tx : List (ClassId × FieldType)) (U : State) : Prop :=
  va_K D vwCl (TYS cI cB cZ cJ tx) U ∧ (U.vm.findClass "[I" = some cI ∧ U.vm.findClass "[B" = some cB ∧ U.vm.findClass "[Z" = some cZ ∧ U.vm.findClass "[J" = some cJ) ∧ (∀ w ∈ NWs, va_Nw w U) ∧ ((∃ q, vk_R RX11 119 "yz" q U) ∧ (∃ q, vk_R RX11 125 "abg" q U) ∧ ∃ q, vk_R RX11 127 "e" q U) ∧ va_AO "NailStain$Text" U
section KXS
variable {D : va_G} {cI cB cZ cJ : ClassId} {tx : List (ClassId × FieldType)}
theorem KX.warm {s U : State} (h : KX D cI cB cZ cJ tx s) (hW : s.WarmedH U.vm) : KX D cI cB cZ cJ tx U := by
  obtain ⟨h1, ⟨a1, a2, a3, a4⟩, h2, ⟨⟨q1, b1⟩, ⟨q2, b2⟩, ⟨q3, b3⟩⟩, h4⟩ := h
  refine ⟨va_K.moved hW.alike h1, ⟨?_, ?_, ?_, ?_⟩, fun w hw => nw_warm (List.mem_filter.mp hw).2 hW (h2 w hw), ⟨⟨q1, b1.warm hW⟩, ⟨q2, b2.warm hW⟩, ⟨q3, b3.warm hW⟩⟩, va_AO.moved hW.alike h4⟩
  · rw [hW.alike.findClass]; exact a1
  · rw [hW.alike.findClass]; exact a2
  · rw [hW.alike.findClass]; exact a3
  · rw [hW.alike.findClass]; exact a4
theorem KX.same {s U : State} (h : KX D cI cB cZ cJ tx s) (hv : s.vm = U.vm) : KX D cI cB cZ cJ tx U := by
  obtain ⟨h1, ⟨a1, a2, a3, a4⟩, h2, ⟨⟨q1, b1⟩, ⟨q2, b2⟩, ⟨q3, b3⟩⟩, h4⟩ := h
  exact ⟨va_K.moved (by rw [hv]; exact Vm.Alike.refl _) h1, ⟨by rw [← hv]; exact a1, by rw [← hv]; exact a2, by rw [← hv]; exact a3, by rw [← hv]; exact a4⟩, fun w hw => nw_same (List.mem_filter.mp hw).2 hv (h2 w hw), ⟨⟨q1, vk_R.same hv.symm b1⟩, ⟨q2, vk_R.same hv.symm b2⟩, ⟨q3, vk_R.same hv.symm b3⟩⟩, va_AO.moved (by rw [hv]; exact Vm.Alike.refl _) h4⟩
end KXS
def PX (D : va_G) (cI cB cZ cJ : ClassId) (tx : List (ClassId × FieldType)) (ws : va_W) (sz : Nat) (U : State) : Prop := U.heap.size = sz ∧ va_P D vwCl ws U.heap ∧ KX D cI cB cZ cJ tx U ∧ va_D (fun _ => True) ws
def BX (D : va_G) (A : Nat → Prop) (ws : va_W) (t : State) : Prop := va_P D vwCl ws t.heap ∧ va_D A ws
theorem px_blind {D : va_G} {cI cB cZ cJ : ClassId} {tx : List (ClassId × FieldType)} {ws : va_W} {sz : Nat} {av : List Value} : FrameBlind (va_Pc av (PX D cI cB cZ cJ tx ws sz)) := fun _ U g mk q => ⟨q.1, q.2.1, q.2.2.1, KX.same (U := U.calling g mk _) q.2.2.2.1 rfl, q.2.2.2.2⟩
abbrev rmX (F mc ms : Nat) : Room := { frames := F, cells := mc, slots := ms, locals := 40 * F }
abbrev wsY (y : MethodName) (cc : ByteArray) (mL : Nat) (ret : Option FieldType) : List Cond := .code y cc mL ret :: TBL
/-- a reader: nothing that was there changes -/
abbrev RdI (l : Launch) (D : va_G) (cI cB cZ cJ : ClassId) (tx : List (ClassId × FieldType)) (y : MethodName) (cc : ByteArray) (mL : Nat) (ret : Option FieldType) (F : Nat) (av : List Value) (ws : va_W) (post : Int32 → Prop) : Prop := ∀ sz : Nat, Met l y (wsY y cc mL ret) (rmX F 0 0) (va_Pc av (PX D cI cB cZ cJ tx ws sz)) (va_Qi (fun r (_ : Unit) => post r) (fun _ _ => True) (va_A [] sz)) 0 0 (va_A [] sz)
abbrev RdL (l : Launch) (D : va_G) (cI cB cZ cJ : ClassId) (tx : List (ClassId × FieldType)) (y : MethodName) (cc : ByteArray) (mL : Nat) (ret : Option FieldType) (F : Nat) (av : List Value) (ws : va_W) (post : Int64 → Prop) : Prop := ∀ sz : Nat, Met l y (wsY y cc mL ret) (rmX F 0 0) (va_Pc av (PX D cI cB cZ cJ tx ws sz)) (va_Ql (fun r (_ : Unit) => post r) (fun _ _ => True) (va_A [] sz)) 0 0 (va_A [] sz)
/-- a writer: its world may change, and is told anew -/
abbrev WrI (l : Launch) (D : va_G) (cI cB cZ cJ : ClassId) (tx : List (ClassId × FieldType)) (y : MethodName) (cc : ByteArray) (mL : Nat) (ret : Option FieldType) (F mc ms : Nat) (av : List Value) (ws : va_W) {S : Type} (post : Int32 → S → Prop) (w1 : S → va_W) : Prop := ∀ sz : Nat, Met l y (wsY y cc mL ret) (rmX F mc ms) (va_Pc av (PX D cI cB cZ cJ tx ws sz)) (va_Qi post (fun u => BX D (va_A ws sz) (w1 u)) (va_A ws sz)) mc ms (va_A ws sz)
abbrev WrL (l : Launch) (D : va_G) (cI cB cZ cJ : ClassId) (tx : List (ClassId × FieldType)) (y : MethodName) (cc : ByteArray) (mL : Nat) (ret : Option FieldType) (F mc ms : Nat) (av : List Value) (ws : va_W) {S : Type} (post : Int64 → S → Prop) (w1 : S → va_W) : Prop := ∀ sz : Nat, Met l y (wsY y cc mL ret) (rmX F mc ms) (va_Pc av (PX D cI cB cZ cJ tx ws sz)) (va_Ql post (fun u => BX D (va_A ws sz) (w1 u)) (va_A ws sz)) mc ms (va_A ws sz)
abbrev WrV (l : Launch) (D : va_G) (cI cB cZ cJ : ClassId) (tx : List (ClassId × FieldType)) (y : MethodName) (cc : ByteArray) (mL : Nat) (ret : Option FieldType) (F mc ms : Nat) (av : List Value) (ws : va_W) {S : Type} (post : S → Prop) (w1 : S → va_W) : Prop := ∀ sz : Nat, Met l y (wsY y cc mL ret) (rmX F mc ms) (va_Pc av (PX D cI cB cZ cJ tx ws sz)) (va_Qv post (fun u => BX D (va_A ws sz) (w1 u)) (va_A ws sz)) mc ms (va_A ws sz)
/-- what is at hand in a method's body -/
abbrev CTX (p : Program) (s : State) (m : MethodId) (meth : Method) (c : Code) (args : Array Value) (y : MethodName) (cc : ByteArray) (mL : Nat) (ret : Option FieldType) : Prop := p.tables.exec = Jvm.exec ∧ c.code = cc ∧ meth.sig.returnType = ret ∧ c.maxLocals = mL ∧ s.vm.findClass y.cls = some m.cls ∧ (∀ w ∈ TBL, w.before args s = true) ∧ meth.locks = false ∧ meth.name = y.name
theorem ctx_of {l : Launch} {y : MethodName} {cc : ByteArray} {mL : Nat} {ret : Option FieldType} {rm : Room} {p : Program} {e : Env} {s : State} {m : MethodId} {args : Array Value} {below : List Frame} {meth : Method} {c : Code} {s₁ : State} (B : BodyLoose p l y (headSpec (wsY y cc mL ret) rm) cc mL ret e s m args below meth c s₁) (hml : c.maxLocals = mL) : CTX p s m meth c args y cc mL ret :=
  ⟨B.exec, B.bytes, B.returns, hml, findClass_of_methodNamed B.named, fun w h => atoms_spec (ws := wsY y cc mL ret) B.pre w (List.mem_cons_of_mem _ h), B.notSynchronized, (name_of_methodNamed B.named B.method).1⟩
section OPEN
variable {l : Launch} {D : va_G} {cI cB cZ cJ : ClassId} {tx : List (ClassId × FieldType)} {y : MethodName} {cc : ByteArray} {mL : Nat} {ret : Option FieldType} {F mc ms : Nat} {av : List Value} {ws : va_W}
theorem rdi_of {post : Int32 → Prop} (hy : plainName y.cls = true) (hn : (lg_sl av).length ≤ mL) (body : ∀ (p : Program) (e : Env) (s : State) (m : MethodId) (below : List Frame) (meth : Method) (c : Code) (A : Nat → Prop) (ls : Array Slot), CTX p s m meth c av.toArray y cc mL ret → KX D cI cB cZ cJ tx s → va_P D vwCl ws s.heap → (∀ q : Nat, s.heap.size ≤ q → A q) → va_S A s.heap s.heap [] → lv_has ls mL (lv_args 0 av) →
    W p l e (rmX F 0 0) s m av.toArray below meth c s.heap [] 0 0 (MQ below (va_Qi (fun r (_ : Unit) => post r) (fun _ _ => True) A) av.toArray s 0 0 A) (F0 m 0 ls [])) : RdI l D cI cB cZ cJ tx y cc mL ret F av ws post := by
  intro sz
  refine Met.ofW (cc := cc) (maxL := mL) (ret := ret) hy rfl ?_
  intro p e s m args below meth c s₁ B hml hv
  obtain ⟨rfl, hsz, hP, hK, hD0⟩ := hv
  subst hsz
  have hl := lv_entry av (n := mL) hn
  rw [lg_entry_eq]
  exact body p e s m below meth c _ _ (ctx_of B hml) hK hP (fun q h => Or.inr h) va_S.rf hl
theorem rdl_of {post : Int64 → Prop} (hy : plainName y.cls = true) (hn : (lg_sl av).length ≤ mL) (body : ∀ (p : Program) (e : Env) (s : State) (m : MethodId) (below : List Frame) (meth : Method) (c : Code) (A : Nat → Prop) (ls : Array Slot), CTX p s m meth c av.toArray y cc mL ret → KX D cI cB cZ cJ tx s → va_P D vwCl ws s.heap → (∀ q : Nat, s.heap.size ≤ q → A q) → va_S A s.heap s.heap [] → lv_has ls mL (lv_args 0 av) →
    W p l e (rmX F 0 0) s m av.toArray below meth c s.heap [] 0 0 (MQ below (va_Ql (fun r (_ : Unit) => post r) (fun _ _ => True) A) av.toArray s 0 0 A) (F0 m 0 ls [])) : RdL l D cI cB cZ cJ tx y cc mL ret F av ws post := by
  intro sz
  refine Met.ofW (cc := cc) (maxL := mL) (ret := ret) hy rfl ?_
  intro p e s m args below meth c s₁ B hml hv
  obtain ⟨rfl, hsz, hP, hK, hD0⟩ := hv
  subst hsz
  have hl := lv_entry av (n := mL) hn
  rw [lg_entry_eq]
  exact body p e s m below meth c _ _ (ctx_of B hml) hK hP (fun q h => Or.inr h) va_S.rf hl
theorem wri_of {S : Type} {post : Int32 → S → Prop} {w1 : S → va_W} (hy : plainName y.cls = true) (hn : (lg_sl av).length ≤ mL) (body : ∀ (p : Program) (e : Env) (s : State) (m : MethodId) (below : List Frame) (meth : Method) (c : Code) (A : Nat → Prop) (ls : Array Slot), CTX p s m meth c av.toArray y cc mL ret → KX D cI cB cZ cJ tx s → va_P D vwCl ws s.heap → va_D A ws → (∀ q : Nat, s.heap.size ≤ q → A q) → va_S A s.heap s.heap [] → lv_has ls mL (lv_args 0 av) →
    W p l e (rmX F mc ms) s m av.toArray below meth c s.heap [] 0 0 (MQ below (va_Qi post (fun u => BX D A (w1 u)) A) av.toArray s mc ms A) (F0 m 0 ls [])) : WrI l D cI cB cZ cJ tx y cc mL ret F mc ms av ws post w1 := by
  intro sz
  refine Met.ofW (cc := cc) (maxL := mL) (ret := ret) hy rfl ?_
  intro p e s m args below meth c s₁ B hml hv
  obtain ⟨rfl, hsz, hP, hK, hD0⟩ := hv
  subst hsz
  have hl := lv_entry av (n := mL) hn
  rw [lg_entry_eq]
  exact body p e s m below meth c _ _ (ctx_of B hml) hK hP hD0.self (fun q h => Or.inr h) va_S.rf hl
theorem wrl_of {S : Type} {post : Int64 → S → Prop} {w1 : S → va_W} (hy : plainName y.cls = true) (hn : (lg_sl av).length ≤ mL) (body : ∀ (p : Program) (e : Env) (s : State) (m : MethodId) (below : List Frame) (meth : Method) (c : Code) (A : Nat → Prop) (ls : Array Slot), CTX p s m meth c av.toArray y cc mL ret → KX D cI cB cZ cJ tx s → va_P D vwCl ws s.heap → va_D A ws → (∀ q : Nat, s.heap.size ≤ q → A q) → va_S A s.heap s.heap [] → lv_has ls mL (lv_args 0 av) →
    W p l e (rmX F mc ms) s m av.toArray below meth c s.heap [] 0 0 (MQ below (va_Ql post (fun u => BX D A (w1 u)) A) av.toArray s mc ms A) (F0 m 0 ls [])) : WrL l D cI cB cZ cJ tx y cc mL ret F mc ms av ws post w1 := by
  intro sz
  refine Met.ofW (cc := cc) (maxL := mL) (ret := ret) hy rfl ?_
  intro p e s m args below meth c s₁ B hml hv
  obtain ⟨rfl, hsz, hP, hK, hD0⟩ := hv
  subst hsz
  have hl := lv_entry av (n := mL) hn
  rw [lg_entry_eq]
  exact body p e s m below meth c _ _ (ctx_of B hml) hK hP hD0.self (fun q h => Or.inr h) va_S.rf hl
theorem wrv_of {S : Type} {post : S → Prop} {w1 : S → va_W} (hy : plainName y.cls = true) (hn : (lg_sl av).length ≤ mL) (body : ∀ (p : Program) (e : Env) (s : State) (m : MethodId) (below : List Frame) (meth : Method) (c : Code) (A : Nat → Prop) (ls : Array Slot), CTX p s m meth c av.toArray y cc mL ret → KX D cI cB cZ cJ tx s → va_P D vwCl ws s.heap → va_D A ws → (∀ q : Nat, s.heap.size ≤ q → A q) → va_S A s.heap s.heap [] → lv_has ls mL (lv_args 0 av) →
    W p l e (rmX F mc ms) s m av.toArray below meth c s.heap [] 0 0 (MQ below (va_Qv post (fun u => BX D A (w1 u)) A) av.toArray s mc ms A) (F0 m 0 ls [])) : WrV l D cI cB cZ cJ tx y cc mL ret F mc ms av ws post w1 := by
  intro sz
  refine Met.ofW (cc := cc) (maxL := mL) (ret := ret) hy rfl ?_
  intro p e s m args below meth c s₁ B hml hv
  obtain ⟨rfl, hsz, hP, hK, hD0⟩ := hv
  subst hsz
  have hl := lv_entry av (n := mL) hn
  rw [lg_entry_eq]
  exact body p e s m below meth c _ _ (ctx_of B hml) hK hP hD0.self (fun q h => Or.inr h) va_S.rf hl
end OPEN
/-! calls: the words -/
def mV (y : MethodName) (cc : ByteArray) (mL : Nat) (ret : Option FieldType) (n : Nat) : Prop := (Cond.instanceMethod y ∈ TBL ∧ Cond.selects y.cls y y ∈ TBL ∧ Cond.initialized y.cls ∈ TBL ∧ Cond.code y cc mL ret ∈ TBL) ∧ y.cls ≠ "java/lang/invoke/MethodHandle" ∧ y.cls ≠ "java/lang/invoke/VarHandle" ∧ (parseMethodDescriptor y.desc).map (fun d => d.parameters.length) = some n
def mS (y : MethodName) (cc : ByteArray) (mL : Nat) (ret : Option FieldType) (n : Nat) : Prop := (Cond.static y ∈ TBL ∧ Cond.initialized y.cls ∈ TBL ∧ Cond.code y cc mL ret ∈ TBL) ∧ y.cls ≠ "java/lang/invoke/MethodHandle" ∧ y.cls ≠ "java/lang/invoke/VarHandle" ∧ (parseMethodDescriptor y.desc).map (fun d => d.parameters.length) = some n
def mI (y : MethodName) (cc : ByteArray) (mL : Nat) (n : Nat) : Prop := (Cond.instanceMethod y ∈ TBL ∧ Cond.initialized y.cls ∈ TBL ∧ Cond.code y cc mL none ∈ TBL) ∧ y.cls ≠ "java/lang/invoke/MethodHandle" ∧ y.cls ≠ "java/lang/invoke/VarHandle" ∧ (parseMethodDescriptor y.desc).map (fun d => d.parameters.length) = some n
theorem wsY_good {y : MethodName} {cc : ByteArray} {mL : Nat} {ret : Option FieldType} (h : Cond.code y cc mL ret ∈ TBL) : GoodIn TBL (wsY y cc mL ret) := fun w hw => (List.mem_cons.mp hw).elim (fun e => by rw [e]; exact tb_good _ h) (fun h2 => tb_good _ h2)
section WORDS
variable {R : Room} {s : State} {args : Array Value} {own : String} {index : Nat} {y : MethodName} {cc : ByteArray} {mL n : Nat} {ret : Option FieldType} {F mc ms : Nat}
theorem zV (hts : ∀ w ∈ TBL, w.before args s = true) (hl : Cond.methodLink own index y ∈ TBL) (h : mV y cc mL ret n) (hR : F + 1 ≤ R.frames ∧ 8 + (mL + 11) + 40 * F ≤ R.locals) : CallW R s args own y.cls index y cc mL ret (wsY y cc mL ret) (rmX F mc ms) mc ms n := by
  obtain ⟨⟨h1, h2, h3, h4⟩, h5⟩ := h
  exact ⟨callB_of n hts (wsY_good h4) rfl rfl rfl (hts _ h3) (hts _ hl) h5 hR, hts _ h1, hts _ h2⟩
theorem zS (hts : ∀ w ∈ TBL, w.before args s = true) (hl : Cond.methodLink own index y ∈ TBL) (h : mS y cc mL ret n) (hR : F + 1 ≤ R.frames ∧ 8 + (mL + 11) + 40 * F ≤ R.locals) : CallB R s args own index y cc mL ret (wsY y cc mL ret) (rmX F mc ms) mc ms n ∧ (Cond.static y).before args s = true := by
  obtain ⟨⟨h1, h3, h4⟩, h5⟩ := h
  exact ⟨callB_of n hts (wsY_good h4) rfl rfl rfl (hts _ h3) (hts _ hl) h5 hR, hts _ h1⟩
theorem zI (hts : ∀ w ∈ TBL, w.before args s = true) (hl : Cond.methodLink own index y ∈ TBL) (hn : y.name = "<init>") (h : mI y cc mL n) (hR : F + 1 ≤ R.frames ∧ 8 + (mL + 11) + 40 * F ≤ R.locals) : CallB R s args own index y cc mL none (wsY y cc mL none) (rmX F mc ms) mc ms n ∧ y.name = "<init>" ∧ (Cond.instanceMethod y).before args s = true := by
  obtain ⟨⟨h1, h3, h4⟩, h5⟩ := h
  exact ⟨callB_of n hts (wsY_good h4) rfl rfl rfl (hts _ h3) (hts _ hl) h5 hR, hn, hts _ h1⟩
theorem zIN {D : va_G} {cI cB cZ cJ : ClassId} {tx : List (ClassId × FieldType)} {host : String} (hts : ∀ w ∈ TBL, w.before args s = true) (hK : KX D cI cB cZ cJ tx s) (hl : Cond.methodLinkNest own index y host ∈ NWs) (hn : y.name = "<init>") (h : mI y cc mL n) (hR : F + 1 ≤ R.frames ∧ 8 + (mL + 11) + 40 * F ≤ R.locals) : va_CN R s args own index y host cc mL none (wsY y cc mL none) (rmX F mc ms) mc ms n ∧ y.name = "<init>" ∧ (Cond.instanceMethod y).before args s = true := by
  obtain ⟨⟨h1, h3, h4⟩, h5⟩ := h
  exact ⟨va_cnB n hts (wsY_good h4) rfl rfl rfl (hK.2.2.1 _ hl) (hts _ h3) h5 hR, hn, hts _ h1⟩
theorem zSN {D : va_G} {cI cB cZ cJ : ClassId} {tx : List (ClassId × FieldType)} {host : String} (hts : ∀ w ∈ TBL, w.before args s = true) (hK : KX D cI cB cZ cJ tx s) (hl : Cond.methodLinkNest own index y host ∈ NWs) (h : mS y cc mL ret n) (hR : F + 1 ≤ R.frames ∧ 8 + (mL + 11) + 40 * F ≤ R.locals) : va_CN R s args own index y host cc mL ret (wsY y cc mL ret) (rmX F mc ms) mc ms n ∧ (Cond.static y).before args s = true ∧ True := by
  obtain ⟨⟨h1, h3, h4⟩, h5⟩ := h
  exact ⟨va_cnB n hts (wsY_good h4) rfl rfl rfl (hK.2.2.1 _ hl) (hts _ h3) h5 hR, hts _ h1, trivial⟩
end WORDS
/-! calls: the start -/
theorem pxS {s : State} {H : Heap} {D : va_G} {cI cB cZ cJ : ClassId} {tx : List (ClassId × FieldType)} {A : Nat → Prop} {ws wp : va_W} {av : List Value} (hK : KX D cI cB cZ cJ tx s) (hP : va_P D vwCl ws H) (hD : va_D A ws) (is : List Nat) (hn : va_nd is = true) (hs : is.map (fun i => ws[i]?) = wp.map some) : PreS s H (va_Pc av (PX D cI cB cZ cJ tx wp H.size)) av := by
  have hf : is.filterMap (fun i => ws[i]?) = wp := by
    have h := congrArg (fun l => l.filterMap id) hs
    simpa [List.filterMap_map, Function.comp_def] using h
  exact ⟨px_blind, fun U hU hW => ⟨rfl, by rw [hU], by rw [hU]; exact hP.sub is hf, hK.warm hW, (hD.sub is hn hs).weaken (fun _ _ _ _ => trivial)⟩⟩
theorem px0 {s : State} {H : Heap} {D : va_G} {cI cB cZ cJ : ClassId} {tx : List (ClassId × FieldType)} {av : List Value} (hK : KX D cI cB cZ cJ tx s) : PreS s H (va_Pc av (PX D cI cB cZ cJ tx [] H.size)) av :=
  ⟨px_blind, fun U hU hW => ⟨rfl, by rw [hU], fun k q h => by simp at h, hK.warm hW, ⟨fun i j p q h => by simp at h, fun k q h => by simp at h⟩⟩⟩
/-- one cell alone, by a reader -/
theorem px1 {s : State} {H : Heap} {D : va_G} {cI cB cZ cJ : ClassId} {tx : List (ClassId × FieldType)} {ws : va_W} {q : Nat × va_E} {av : List Value} (hK : KX D cI cB cZ cJ tx s) (hP : va_P D vwCl ws H) (i : Nat) (hs : ws[i]? = some q) : PreS s H (va_Pc av (PX D cI cB cZ cJ tx [q] H.size)) av := by
  refine ⟨px_blind, fun U hU hW => ⟨rfl, by rw [hU], ?_, hK.warm hW, ⟨fun i j p q h1 h2 _ => ?_, fun k q h => trivial⟩⟩⟩
  · rw [hU]
    exact hP.sub [i] (by simp [hs])
  · have a1 := (List.getElem?_eq_some_iff.mp h1).1
    have a2 := (List.getElem?_eq_some_iff.mp h2).1
    simp at a1 a2
    omega
theorem pV {s : State} {H : Heap} {C : String} {b : Nat} {Pc : Array Value → State → Prop} {As : List Value} (hp : PreS s H Pc (.ref b :: As)) {D : va_G} {cI cB cZ cJ : ClassId} {tx : List (ClassId × FieldType)} {ws : va_W} {ci : Nat} {T : u_T} {N : Nat} {fs : List Value} (hK : KX D cI cB cZ cJ tx s) (hP : va_P D vwCl ws H) (q0 : Nat) (hc : vwCl[ci]? = some (C, T, N)) (he : ws[q0]? = some (b, .inr (ci, fs))) : PreV s H C b Pc As := ⟨hp.1, va_recv hK.1 hP hc he, hp.2⟩
/-! calls: the end -/
section ENDS
variable {p : Program} {l : Launch} {e : Env} {R : Room} {s : State} {m : MethodId} {args : Array Value} {below : List Frame} {meth : Method} {c : Code} {H : Heap} {locs : List Loc} {cells slots : Nat} {Q : State → Prop}
variable {pc : Nat} {ls : Array Slot} {rest st0 : List Value} {a : Array Value} {A0 : Nat → Prop} {H0 : Heap} {mc ms : Nat} {D : va_G} {ws : va_W}
theorem kpR {H1 : Heap} (hP : va_P D vwCl ws H) (hk : ∀ q : Nat, q < H.size → ¬ va_A [] H.size q → H1[q]? = H[q]?) : va_P D vwCl ws H1 := hP.kept (fun k q hq => hk q.1 (hP k q hq).lt (fun h => h.elim (fun ⟨k, e, h⟩ => by simp at h) (fun h => absurd h (Nat.not_le.mpr (hP k q hq).lt))))
theorem aR {H0 H : Heap} {locs : List Loc} (hS : va_S A0 H0 H locs) (hA : ∀ q, H0.size ≤ q → A0 q) : ∀ q, va_A [] H.size q → A0 q := fun q h => h.elim (fun ⟨k, e, h⟩ => by simp at h) (fun h => hA q (Nat.le_trans hS.1 h))
theorem eRi {post : Int32 → Prop} (hr : va_Run p l e R s m args below meth c H locs cells slots 0 0 (F0 m pc ls st0) rest (va_Qi (fun r (_ : Unit) => post r) (fun _ _ => True) (va_A [] H.size) a) (va_A [] H.size)) (hP : va_P D vwCl ws H) (hS : va_S A0 H0 H locs) (hA : ∀ q, H0.size ≤ q → A0 q)
    (kk : ∀ (r : Int32) (H1 : Heap) (locs1 : List Loc), post r → va_P D vwCl ws H1 → va_S A0 H0 H1 locs1 → W p l e R s m args below meth c H1 locs1 cells slots Q (F0 m (pc + 3) ls (.int r :: rest))) : W p l e R s m args below meth c H locs cells slots Q (F0 m pc ls st0) :=
  va_calli hr hS (fun q _ h => aR hS hA q h) (aR hS hA) (fun r _ _ H1 locs1 _ _ hw _ _ hk hS => kk r H1 locs1 hw (kpR hP hk) hS)
theorem eRl {post : Int64 → Prop} (hr : va_Run p l e R s m args below meth c H locs cells slots 0 0 (F0 m pc ls st0) rest (va_Ql (fun r (_ : Unit) => post r) (fun _ _ => True) (va_A [] H.size) a) (va_A [] H.size)) (hP : va_P D vwCl ws H) (hS : va_S A0 H0 H locs) (hA : ∀ q, H0.size ≤ q → A0 q)
    (kk : ∀ (r : Int64) (H1 : Heap) (locs1 : List Loc), post r → va_P D vwCl ws H1 → va_S A0 H0 H1 locs1 → W p l e R s m args below meth c H1 locs1 cells slots Q (F0 m (pc + 3) ls (.long r :: rest))) : W p l e R s m args below meth c H locs cells slots Q (F0 m pc ls st0) :=
  va_calll hr hS (fun q _ h => aR hS hA q h) (aR hS hA) (fun r _ _ H1 locs1 _ _ hw _ _ hk hS => kk r H1 locs1 hw (kpR hP hk) hS)
theorem eWi {S : Type} {post : Int32 → S → Prop} {wp wr : va_W} {w1 : S → va_W} (hr : va_Run p l e R s m args below meth c H locs cells slots mc ms (F0 m pc ls st0) rest (va_Qi post (fun u => BX D (va_A wp H.size) (w1 u)) (va_A wp H.size) a) (va_A wp H.size)) (hP : va_P D vwCl ws H) (hD : va_D A0 ws) (hS : va_S A0 H0 H locs) (hA : ∀ q, H0.size ≤ q → A0 q)
    (isC isR : List Nat) (hC : isC.map (fun i => ws[i]?) = wp.map some) (hR : isR.map (fun i => ws[i]?) = wr.map some) (hn : va_nd isR = true) (hdis : ∀ i ∈ isR, i ∉ isC)
    (kk : ∀ (r : Int32) (u : S) (H1 : Heap) (locs1 : List Loc), post r u → va_P D vwCl (wr ++ w1 u) H1 → va_D A0 (wr ++ w1 u) → va_S A0 H0 H1 locs1 → W p l e R s m args below meth c H1 locs1 (cells + mc) (slots + ms) Q (F0 m (pc + 3) ls (.int r :: rest))) : W p l e R s m args below meth c H locs cells slots Q (F0 m pc ls st0) := by
  have hF := va_free hD hS hA isC hC
  refine va_calli hr hS (fun q _ h => hF q h) hF (fun r u t H1 locs1 ht _ hw hB _ hk hS => ?_)
  obtain ⟨hP1, hD1⟩ := hB
  rw [ht] at hP1
  obtain ⟨hP, hD⟩ := va_join hP hD isC isR hC hR hn hdis hk hF hP1 hD1
  exact kk r u H1 locs1 hw hP hD hS
theorem eWl {S : Type} {post : Int64 → S → Prop} {wp wr : va_W} {w1 : S → va_W} (hr : va_Run p l e R s m args below meth c H locs cells slots mc ms (F0 m pc ls st0) rest (va_Ql post (fun u => BX D (va_A wp H.size) (w1 u)) (va_A wp H.size) a) (va_A wp H.size)) (hP : va_P D vwCl ws H) (hD : va_D A0 ws) (hS : va_S A0 H0 H locs) (hA : ∀ q, H0.size ≤ q → A0 q)
    (isC isR : List Nat) (hC : isC.map (fun i => ws[i]?) = wp.map some) (hR : isR.map (fun i => ws[i]?) = wr.map some) (hn : va_nd isR = true) (hdis : ∀ i ∈ isR, i ∉ isC)
    (kk : ∀ (r : Int64) (u : S) (H1 : Heap) (locs1 : List Loc), post r u → va_P D vwCl (wr ++ w1 u) H1 → va_D A0 (wr ++ w1 u) → va_S A0 H0 H1 locs1 → W p l e R s m args below meth c H1 locs1 (cells + mc) (slots + ms) Q (F0 m (pc + 3) ls (.long r :: rest))) : W p l e R s m args below meth c H locs cells slots Q (F0 m pc ls st0) := by
  have hF := va_free hD hS hA isC hC
  refine va_calll hr hS (fun q _ h => hF q h) hF (fun r u t H1 locs1 ht _ hw hB _ hk hS => ?_)
  obtain ⟨hP1, hD1⟩ := hB
  rw [ht] at hP1
  obtain ⟨hP, hD⟩ := va_join hP hD isC isR hC hR hn hdis hk hF hP1 hD1
  exact kk r u H1 locs1 hw hP hD hS
theorem eWv {S : Type} {post : S → Prop} {wp wr : va_W} {w1 : S → va_W} (hr : va_Run p l e R s m args below meth c H locs cells slots mc ms (F0 m pc ls st0) rest (va_Qv post (fun u => BX D (va_A wp H.size) (w1 u)) (va_A wp H.size) a) (va_A wp H.size)) (hP : va_P D vwCl ws H) (hD : va_D A0 ws) (hS : va_S A0 H0 H locs) (hA : ∀ q, H0.size ≤ q → A0 q)
    (isC isR : List Nat) (hC : isC.map (fun i => ws[i]?) = wp.map some) (hR : isR.map (fun i => ws[i]?) = wr.map some) (hn : va_nd isR = true) (hdis : ∀ i ∈ isR, i ∉ isC)
    (kk : ∀ (u : S) (H1 : Heap) (locs1 : List Loc), post u → va_P D vwCl (wr ++ w1 u) H1 → va_D A0 (wr ++ w1 u) → va_S A0 H0 H1 locs1 → W p l e R s m args below meth c H1 locs1 (cells + mc) (slots + ms) Q (F0 m (pc + 3) ls rest)) : W p l e R s m args below meth c H locs cells slots Q (F0 m pc ls st0) := by
  have hF := va_free hD hS hA isC hC
  refine va_callv hr hS (fun q _ h => hF q h) hF (fun u t H1 locs1 ht _ hw hB _ hk hS => ?_)
  obtain ⟨hP1, hD1⟩ := hB
  rw [ht] at hP1
  obtain ⟨hP, hD⟩ := va_join hP hD isC isR hC hR hn hdis hk hF hP1 hD1
  exact kk u H1 locs1 hw hP hD hS
end ENDS
/-! numbers on the stack, truth values -/
abbrev bi (p : Prop) [Decidable p] : Int32 := if p then 1 else 0
section TOPS
variable {p : Program} {l : Launch} {e : Env} {R : Room} {s : State} {m : MethodId} {args : Array Value} {below : List Frame} {meth : Method} {c : Code} {H : Heap} {locs : List Loc} {cells slots : Nat} {Q : State → Prop}
variable {cc : ByteArray} {pc : Nat} {ls : Array Slot} {rest : List Value} {D : va_G} {A : Nat → Prop} {a : Nat} {ws : va_W} {H0 : Heap} {cI cB cZ cJ : ClassId} {tx : List (ClassId × FieldType)}
theorem lv_topv {x y : Int32} (h : x = y) (k : W p l e R s m args below meth c H locs cells slots Q (F0 m pc ls (.int y :: rest))) : W p l e R s m args below meth c H locs cells slots Q (F0 m pc ls (.int x :: rest)) := by rw [h]; exact k
theorem lv_topw {x y : Int64} (h : x = y) (k : W p l e R s m args below meth c H locs cells slots Q (F0 m pc ls (.long y :: rest))) : W p l e R s m args below meth c H locs cells slots Q (F0 m pc ls (.long x :: rest)) := by rw [h]; exact k
theorem lv_topr {x y : Value} (h : x = y) (k : W p l e R s m args below meth c H locs cells slots Q (F0 m pc ls (y :: rest))) : W p l e R s m args below meth c H locs cells slots Q (F0 m pc ls (x :: rest)) := by rw [h]; exact k
theorem lv_bi_ne (hexec : p.tables.exec = Jvm.exec) (hb : c.code = cc) {P : Prop} [Decidable P] {off : Int} {tgt : Nat} (hdg : decode cc pc = .ok (.ifCond .ne off, 3)) (ht : (pc : Int) + off = (tgt : Int))
    (kt : P → W p l e R s m args below meth c H locs cells slots Q (F0 m tgt ls rest)) (kf : ¬ P → W p l e R s m args below meth c H locs cells slots Q (F0 m (pc + 3) ls rest)) : W p l e R s m args below meth c H locs cells slots Q (F0 m pc ls (.int (bi P) :: rest)) :=
  lv_if_ne hexec hb hdg ht (fun h => kt (Decidable.byContradiction fun q => h (if_neg q))) (fun h => kf (fun q => absurd h (by show ¬ (if P then (1 : Int32) else 0) = 0; rw [if_pos q]; decide)))
theorem lv_bi_eq (hexec : p.tables.exec = Jvm.exec) (hb : c.code = cc) {P : Prop} [Decidable P] {off : Int} {tgt : Nat} (hdg : decode cc pc = .ok (.ifCond .eq off, 3)) (ht : (pc : Int) + off = (tgt : Int))
    (kt : ¬ P → W p l e R s m args below meth c H locs cells slots Q (F0 m tgt ls rest)) (kf : P → W p l e R s m args below meth c H locs cells slots Q (F0 m (pc + 3) ls rest)) : W p l e R s m args below meth c H locs cells slots Q (F0 m pc ls (.int (bi P) :: rest)) :=
  lv_if_eq hexec hb hdg ht (fun h => kt (fun q => absurd h (by show ¬ (if P then (1 : Int32) else 0) = 0; rw [if_pos q]; decide))) (fun h => kf (Decidable.byContradiction fun q => h (if_neg q)))
theorem nb_bi {P : Prop} [Decidable P] : narrow .boolean (.int (bi P)) = .int (bi P) := by
  by_cases h : P
  · rw [show bi P = 1 from if_pos h]; decide
  · rw [show bi P = 0 from if_neg h]; decide
/-- stores and loads of rows whose contents nobody asks for -/
theorem st_i (hexec : p.tables.exec = Jvm.exec) (hb : c.code = cc) (hK : KX D cI cB cZ cJ tx s) (hP : va_P D vwCl ws H) (hD : va_D A ws) (hS : va_S A H0 H locs) (q0 : Nat) {n : Nat} {f : Nat → Int32} (ha : ws[q0]? = some (a, .inl (cI, n, .inl f))) {i : Int32} {x : Int32} (hin : vp_in i n) (hdg : decode cc pc = .ok (.iastore, 1))
    (kk : ∀ (f1 : Nat → Int32) (H1 : Heap) (locs1 : List Loc), va_P D vwCl (ws.set q0 (a, .inl (cI, n, .inl f1))) H1 → va_D A (ws.set q0 (a, .inl (cI, n, .inl f1))) → va_S A H0 H1 locs1 → W p l e R s m args below meth c H1 locs1 cells slots Q (F0 m (pc + 1) ls rest)) : W p l e R s m args below meth c H locs cells slots Q (F0 m pc ls (.int x :: .int i :: .ref a :: rest)) :=
  va_iast hexec hb hK.1 hP hD hS q0 0 ha rfl hin hdg (fun H1 locs1 h1 h2 h3 => kk _ H1 locs1 h1 h2 h3)
theorem st_b (hexec : p.tables.exec = Jvm.exec) (hb : c.code = cc) (hK : KX D cI cB cZ cJ tx s) (hP : va_P D vwCl ws H) (hD : va_D A ws) (hS : va_S A H0 H locs) (q0 : Nat) {n : Nat} {f : Nat → Int32} (ha : ws[q0]? = some (a, .inl (cB, n, .inl f))) {i : Int32} {x : Int32} (hin : vp_in i n) (hdg : decode cc pc = .ok (.bastore, 1))
    (kk : ∀ (f1 : Nat → Int32) (H1 : Heap) (locs1 : List Loc), va_P D vwCl (ws.set q0 (a, .inl (cB, n, .inl f1))) H1 → va_D A (ws.set q0 (a, .inl (cB, n, .inl f1))) → va_S A H0 H1 locs1 → W p l e R s m args below meth c H1 locs1 cells slots Q (F0 m (pc + 1) ls rest)) : W p l e R s m args below meth c H locs cells slots Q (F0 m pc ls (.int x :: .int i :: .ref a :: rest)) :=
  va_bast hexec hb hK.1 hP hD hS q0 1 ha rfl hin hdg (fun H1 locs1 h1 h2 h3 => kk _ H1 locs1 h1 h2 h3)
theorem st_z (hexec : p.tables.exec = Jvm.exec) (hb : c.code = cc) (hK : KX D cI cB cZ cJ tx s) (hP : va_P D vwCl ws H) (hD : va_D A ws) (hS : va_S A H0 H locs) (q0 : Nat) {n : Nat} {f : Nat → Int32} (ha : ws[q0]? = some (a, .inl (cZ, n, .inl f))) {i : Int32} {x : Int32} (hin : vp_in i n) (hdg : decode cc pc = .ok (.bastore, 1))
    (kk : ∀ (f1 : Nat → Int32) (H1 : Heap) (locs1 : List Loc), va_P D vwCl (ws.set q0 (a, .inl (cZ, n, .inl f1))) H1 → va_D A (ws.set q0 (a, .inl (cZ, n, .inl f1))) → va_S A H0 H1 locs1 → W p l e R s m args below meth c H1 locs1 cells slots Q (F0 m (pc + 1) ls rest)) : W p l e R s m args below meth c H locs cells slots Q (F0 m pc ls (.int x :: .int i :: .ref a :: rest)) :=
  va_zast hexec hb hK.1 hP hD hS q0 2 ha rfl hin hdg (fun H1 locs1 h1 h2 h3 => kk _ H1 locs1 h1 h2 h3)
theorem ld_i (hexec : p.tables.exec = Jvm.exec) (hb : c.code = cc) (hK : KX D cI cB cZ cJ tx s) (hP : va_P D vwCl ws H) (q0 : Nat) {n : Nat} {f : Nat → Int32} (ha : ws[q0]? = some (a, .inl (cI, n, .inl f))) {i : Int32} (hin : vp_in i n) (hdg : decode cc pc = .ok (.iaload, 1))
    (kk : ∀ x : Int32, W p l e R s m args below meth c H locs cells slots Q (F0 m (pc + 1) ls (.int x :: rest))) : W p l e R s m args below meth c H locs cells slots Q (F0 m pc ls (.int i :: .ref a :: rest)) :=
  va_iald hexec hb hK.1 hP q0 0 ha rfl hin hdg (kk _)
/-- loads of rows of noughts -/
theorem l0_i (hexec : p.tables.exec = Jvm.exec) (hb : c.code = cc) (hK : KX D cI cB cZ cJ tx s) (hP : va_P D vwCl ws H) (q0 : Nat) {n : Nat} (ha : ws[q0]? = some (a, .inl (cI, n, .inl (fun _ => 0)))) {i : Int32} (hin : vp_in i n) (hdg : decode cc pc = .ok (.iaload, 1))
    (kk : W p l e R s m args below meth c H locs cells slots Q (F0 m (pc + 1) ls (.int 0 :: rest))) : W p l e R s m args below meth c H locs cells slots Q (F0 m pc ls (.int i :: .ref a :: rest)) :=
  va_iald hexec hb hK.1 hP q0 0 ha rfl hin hdg kk
theorem l0_z (hexec : p.tables.exec = Jvm.exec) (hb : c.code = cc) (hK : KX D cI cB cZ cJ tx s) (hP : va_P D vwCl ws H) (q0 : Nat) {n : Nat} (ha : ws[q0]? = some (a, .inl (cZ, n, .inl (fun _ => 0)))) {i : Int32} (hin : vp_in i n) (hdg : decode cc pc = .ok (.baload, 1))
    (kk : W p l e R s m args below meth c H locs cells slots Q (F0 m (pc + 1) ls (.int 0 :: rest))) : W p l e R s m args below meth c H locs cells slots Q (F0 m pc ls (.int i :: .ref a :: rest)) :=
  va_zald hexec hb hK.1 hP q0 2 ha rfl hin hdg kk
theorem ln_x (hexec : p.tables.exec = Jvm.exec) (hb : c.code = cc) (hK : KX D cI cB cZ cJ tx s) (hP : va_P D vwCl ws H) (q0 t0 : Nat) {cA : ClassId} {x : vp_A} (ha : ws[q0]? = some (a, .inl (cA, x))) {ty : FieldType} (ht : (TYS cI cB cZ cJ tx)[t0]? = some (cA, ty)) {v : Int32} (hv : Int32.ofNat x.1 = v) (hdg : decode cc pc = .ok (.arraylength, 1))
    (kk : W p l e R s m args below meth c H locs cells slots Q (F0 m (pc + 1) ls (.int v :: rest))) : W p l e R s m args below meth c H locs cells slots Q (F0 m pc ls (.ref a :: rest)) := va_alen hexec hb hK.1 hP q0 t0 ha ht hv hdg kk
/-- new rows, of the class that is known -/
theorem nw_a (hexec : p.tables.exec = Jvm.exec) (hb : c.code = cc) {atype : ArrayType} (harr : (Cond.arrayClass (newarray.typeOf atype)).before args s = true) {ty : FieldType} (hty : newarray.typeOf atype = ty) {cA : ClassId} (hcA : s.vm.findClass ("[" ++ ty.toString) = some cA) (hP : va_P D vwCl ws H) (hD : va_D A ws) (hS : va_S A H0 H locs) (hA : ∀ q, H0.size ≤ q → A q)
    {n : Int32} {N' : Nat} {a0 : vp_A} (ha : ∀ cA : ClassId, vp_cell cA a0 = arrV cA N' (fun _ => defaultValue ty)) (hn : ¬ n < 0) (hN : n.toNatClampNeg = N') (hbytes : N' * componentBytes ty ≤ 536870912) (hcells : cells + 1 ≤ R.cells) (hslots : slots + N' ≤ R.slots) (hdg : decode cc pc = .ok (.newarray atype, 2))
    (kk : ∀ (q : Nat) (H1 : Heap), va_P D vwCl (ws ++ [(q, .inl (cA, a0))]) H1 → va_D A (ws ++ [(q, .inl (cA, a0))]) → va_S A H0 H1 locs →
      W p l e R s m args below meth c H1 locs (cells + 1) (slots + N') Q (F0 m (pc + 2) ls (.ref q :: rest))) : W p l e R s m args below meth c H locs cells slots Q (F0 m pc ls (.int n :: rest)) := by
  subst hty
  refine va_newaK hexec hb harr (g := F0 m pc ls (.int n :: rest)) rfl hdg rfl hn hN hbytes hcells hslots rfl (fun H1 cA' e1 z1 o1 _ hc => ?_)
  have hcc : cA' = cA := Option.some.inj (hc.symm.trans hcA)
  subst hcc
  have hk : ∀ (k : Nat) (x : Nat × va_E), ws[k]? = some x → H1[x.1]? = H[x.1]? := fun k x hx => o1 x.1 ((hP k x hx).lt)
  refine kk H.size H1 ((hP.kept hk).app (fun k x hx => ?_)) (hD.push hP rfl (hA _ hS.1)) ⟨Nat.le_trans hS.1 (by omega), fun x h1 h2 => (o1 x (Nat.lt_of_lt_of_le h1 hS.1)).trans (hS.2.1 x h1 h2), hS.2.2⟩
  have hz : k < 1 := (List.getElem?_eq_some_iff.mp hx).1
  rw [show k = 0 by omega] at hx
  cases hx
  show H1[H.size]? = some (vp_cell _ _)
  rw [ha]
  exact e1
end TOPS
theorem bx0 {D : va_G} {A : Nat → Prop} {t : State} : BX D A [] t := ⟨fun k q h => by simp at h, fun i j p q h => by simp at h, fun k q h => by simp at h⟩
theorem w32_le {a b : Int32} : a.toInt64 ≤ b.toInt64 ↔ a ≤ b := by rw [Int64.le_iff_toInt_le, Int32.le_iff_toInt_le, Int32.toInt_toInt64, Int32.toInt_toInt64]
theorem isIn32 {r x lo hi : Int32} {Lo Hi : Int64} (h1 : lo.toInt64 = Lo) (h2 : hi.toInt64 = Hi) (h : r = bi (Lo ≤ x.toInt64 ∧ x.toInt64 ≤ Hi)) : r = bi (lo ≤ x ∧ x ≤ hi) := by
  rw [h, ← h1, ← h2]
  simp only [bi, w32_le]
theorem in_0 {w : Cond} (i : Nat) (h : tables_1_1[i]? = some w) (hg : goodWord w = true) : w ∈ TBL := List.mem_filter.mpr ⟨by have h := List.mem_of_getElem? h; exact List.mem_append_right _ (List.mem_append_left _ h), hg⟩
theorem im_0 {w : Cond} (i : Nat) (h : tables_1_1[i]? = some w) (hg : wNest w = true) : w ∈ NWs := List.mem_filter.mpr ⟨by have h := List.mem_of_getElem? h; exact List.mem_append_right _ (List.mem_append_left _ h), hg⟩
theorem in_1 {w : Cond} (i : Nat) (h : tables_1_2[i]? = some w) (hg : goodWord w = true) : w ∈ TBL := List.mem_filter.mpr ⟨by have h := List.mem_of_getElem? h; exact List.mem_append_right _ (List.mem_append_right _ (List.mem_append_left _ h)), hg⟩
theorem im_1 {w : Cond} (i : Nat) (h : tables_1_2[i]? = some w) (hg : wNest w = true) : w ∈ NWs := List.mem_filter.mpr ⟨by have h := List.mem_of_getElem? h; exact List.mem_append_right _ (List.mem_append_right _ (List.mem_append_left _ h)), hg⟩
theorem in_2 {w : Cond} (i : Nat) (h : tables_1_3[i]? = some w) (hg : goodWord w = true) : w ∈ TBL := List.mem_filter.mpr ⟨by have h := List.mem_of_getElem? h; exact List.mem_append_right _ (List.mem_append_right _ (List.mem_append_right _ (List.mem_append_left _ h))), hg⟩
theorem im_2 {w : Cond} (i : Nat) (h : tables_1_3[i]? = some w) (hg : wNest w = true) : w ∈ NWs := List.mem_filter.mpr ⟨by have h := List.mem_of_getElem? h; exact List.mem_append_right _ (List.mem_append_right _ (List.mem_append_right _ (List.mem_append_left _ h))), hg⟩
theorem in_3 {w : Cond} (i : Nat) (h : tables_1_4[i]? = some w) (hg : goodWord w = true) : w ∈ TBL := List.mem_filter.mpr ⟨by have h := List.mem_of_getElem? h; exact List.mem_append_right _ (List.mem_append_right _ (List.mem_append_right _ (List.mem_append_right _ (List.mem_append_left _ h)))), hg⟩
theorem im_3 {w : Cond} (i : Nat) (h : tables_1_4[i]? = some w) (hg : wNest w = true) : w ∈ NWs := List.mem_filter.mpr ⟨by have h := List.mem_of_getElem? h; exact List.mem_append_right _ (List.mem_append_right _ (List.mem_append_right _ (List.mem_append_right _ (List.mem_append_left _ h)))), hg⟩
theorem in_4 {w : Cond} (i : Nat) (h : tables_1_5[i]? = some w) (hg : goodWord w = true) : w ∈ TBL := List.mem_filter.mpr ⟨by have h := List.mem_of_getElem? h; exact List.mem_append_right _ (List.mem_append_right _ (List.mem_append_right _ (List.mem_append_right _ (List.mem_append_right _ (List.mem_append_left _ h))))), hg⟩
theorem im_4 {w : Cond} (i : Nat) (h : tables_1_5[i]? = some w) (hg : wNest w = true) : w ∈ NWs := List.mem_filter.mpr ⟨by have h := List.mem_of_getElem? h; exact List.mem_append_right _ (List.mem_append_right _ (List.mem_append_right _ (List.mem_append_right _ (List.mem_append_right _ (List.mem_append_left _ h))))), hg⟩
theorem in_5 {w : Cond} (i : Nat) (h : tables_1_6[i]? = some w) (hg : goodWord w = true) : w ∈ TBL := List.mem_filter.mpr ⟨by have h := List.mem_of_getElem? h; exact List.mem_append_right _ (List.mem_append_right _ (List.mem_append_right _ (List.mem_append_right _ (List.mem_append_right _ (List.mem_append_right _ (List.mem_append_left _ h)))))), hg⟩
theorem im_5 {w : Cond} (i : Nat) (h : tables_1_6[i]? = some w) (hg : wNest w = true) : w ∈ NWs := List.mem_filter.mpr ⟨by have h := List.mem_of_getElem? h; exact List.mem_append_right _ (List.mem_append_right _ (List.mem_append_right _ (List.mem_append_right _ (List.mem_append_right _ (List.mem_append_right _ (List.mem_append_left _ h)))))), hg⟩
theorem in_6 {w : Cond} (i : Nat) (h : tables_1_7[i]? = some w) (hg : goodWord w = true) : w ∈ TBL := List.mem_filter.mpr ⟨by have h := List.mem_of_getElem? h; exact List.mem_append_right _ (List.mem_append_right _ (List.mem_append_right _ (List.mem_append_right _ (List.mem_append_right _ (List.mem_append_right _ (List.mem_append_right _ (List.mem_append_left _ h))))))), hg⟩
theorem im_6 {w : Cond} (i : Nat) (h : tables_1_7[i]? = some w) (hg : wNest w = true) : w ∈ NWs := List.mem_filter.mpr ⟨by have h := List.mem_of_getElem? h; exact List.mem_append_right _ (List.mem_append_right _ (List.mem_append_right _ (List.mem_append_right _ (List.mem_append_right _ (List.mem_append_right _ (List.mem_append_right _ (List.mem_append_left _ h))))))), hg⟩
theorem in_7 {w : Cond} (i : Nat) (h : tables_1_8[i]? = some w) (hg : goodWord w = true) : w ∈ TBL := List.mem_filter.mpr ⟨by have h := List.mem_of_getElem? h; exact List.mem_append_right _ (List.mem_append_right _ (List.mem_append_right _ (List.mem_append_right _ (List.mem_append_right _ (List.mem_append_right _ (List.mem_append_right _ (List.mem_append_right _ (List.mem_append_left _ h)))))))), hg⟩
theorem im_7 {w : Cond} (i : Nat) (h : tables_1_8[i]? = some w) (hg : wNest w = true) : w ∈ NWs := List.mem_filter.mpr ⟨by have h := List.mem_of_getElem? h; exact List.mem_append_right _ (List.mem_append_right _ (List.mem_append_right _ (List.mem_append_right _ (List.mem_append_right _ (List.mem_append_right _ (List.mem_append_right _ (List.mem_append_right _ (List.mem_append_left _ h)))))))), hg⟩
theorem in_8 {w : Cond} (i : Nat) (h : tables_1_9[i]? = some w) (hg : goodWord w = true) : w ∈ TBL := List.mem_filter.mpr ⟨by have h := List.mem_of_getElem? h; exact List.mem_append_right _ (List.mem_append_right _ (List.mem_append_right _ (List.mem_append_right _ (List.mem_append_right _ (List.mem_append_right _ (List.mem_append_right _ (List.mem_append_right _ (List.mem_append_right _ h)))))))), hg⟩
theorem im_8 {w : Cond} (i : Nat) (h : tables_1_9[i]? = some w) (hg : wNest w = true) : w ∈ NWs := List.mem_filter.mpr ⟨by have h := List.mem_of_getElem? h; exact List.mem_append_right _ (List.mem_append_right _ (List.mem_append_right _ (List.mem_append_right _ (List.mem_append_right _ (List.mem_append_right _ (List.mem_append_right _ (List.mem_append_right _ (List.mem_append_right _ h)))))))), hg⟩
section OPEN2
variable {l : Launch} {D : va_G} {cI cB cZ cJ : ClassId} {tx : List (ClassId × FieldType)} {y : MethodName} {cc : ByteArray} {mL : Nat} {ret : Option FieldType} {F mc ms : Nat} {av : List Value} {ws : va_W}
theorem rdi_of2 {post : Int32 → Prop} (hy : plainName y.cls = true) (hn : (lg_sl av).length ≤ mL) (body : ∀ (p : Program) (e : Env) (s : State) (m : MethodId) (below : List Frame) (meth : Method) (c : Code) (A : Nat → Prop) (ls : Array Slot) (H : Heap) (locs : List Loc), CTX p s m meth c av.toArray y cc mL ret → KX D cI cB cZ cJ tx s → va_P D vwCl ws H → (∀ q : Nat, s.heap.size ≤ q → A q) → va_S A s.heap H locs → lv_has ls mL (lv_args 0 av) →
    W p l e (rmX F 0 0) s m av.toArray below meth c H locs 0 0 (MQ below (va_Qi (fun r (_ : Unit) => post r) (fun _ _ => True) A) av.toArray s 0 0 A) (F0 m 0 ls [])) : RdI l D cI cB cZ cJ tx y cc mL ret F av ws post :=
  rdi_of hy hn (fun p e s m below meth c A ls hC hK hP hA hS hl => body p e s m below meth c A ls s.heap [] hC hK hP hA hS hl)
theorem rdl_of2 {post : Int64 → Prop} (hy : plainName y.cls = true) (hn : (lg_sl av).length ≤ mL) (body : ∀ (p : Program) (e : Env) (s : State) (m : MethodId) (below : List Frame) (meth : Method) (c : Code) (A : Nat → Prop) (ls : Array Slot) (H : Heap) (locs : List Loc), CTX p s m meth c av.toArray y cc mL ret → KX D cI cB cZ cJ tx s → va_P D vwCl ws H → (∀ q : Nat, s.heap.size ≤ q → A q) → va_S A s.heap H locs → lv_has ls mL (lv_args 0 av) →
    W p l e (rmX F 0 0) s m av.toArray below meth c H locs 0 0 (MQ below (va_Ql (fun r (_ : Unit) => post r) (fun _ _ => True) A) av.toArray s 0 0 A) (F0 m 0 ls [])) : RdL l D cI cB cZ cJ tx y cc mL ret F av ws post :=
  rdl_of hy hn (fun p e s m below meth c A ls hC hK hP hA hS hl => body p e s m below meth c A ls s.heap [] hC hK hP hA hS hl)
theorem wri_of2 {S : Type} {post : Int32 → S → Prop} {w1 : S → va_W} (hy : plainName y.cls = true) (hn : (lg_sl av).length ≤ mL) (body : ∀ (p : Program) (e : Env) (s : State) (m : MethodId) (below : List Frame) (meth : Method) (c : Code) (A : Nat → Prop) (ls : Array Slot) (H : Heap) (locs : List Loc), CTX p s m meth c av.toArray y cc mL ret → KX D cI cB cZ cJ tx s → va_P D vwCl ws H → va_D A ws → (∀ q : Nat, s.heap.size ≤ q → A q) → va_S A s.heap H locs → lv_has ls mL (lv_args 0 av) →
    W p l e (rmX F mc ms) s m av.toArray below meth c H locs 0 0 (MQ below (va_Qi post (fun u => BX D A (w1 u)) A) av.toArray s mc ms A) (F0 m 0 ls [])) : WrI l D cI cB cZ cJ tx y cc mL ret F mc ms av ws post w1 :=
  wri_of hy hn (fun p e s m below meth c A ls hC hK hP hD hA hS hl => body p e s m below meth c A ls s.heap [] hC hK hP hD hA hS hl)
theorem wrl_of2 {S : Type} {post : Int64 → S → Prop} {w1 : S → va_W} (hy : plainName y.cls = true) (hn : (lg_sl av).length ≤ mL) (body : ∀ (p : Program) (e : Env) (s : State) (m : MethodId) (below : List Frame) (meth : Method) (c : Code) (A : Nat → Prop) (ls : Array Slot) (H : Heap) (locs : List Loc), CTX p s m meth c av.toArray y cc mL ret → KX D cI cB cZ cJ tx s → va_P D vwCl ws H → va_D A ws → (∀ q : Nat, s.heap.size ≤ q → A q) → va_S A s.heap H locs → lv_has ls mL (lv_args 0 av) →
    W p l e (rmX F mc ms) s m av.toArray below meth c H locs 0 0 (MQ below (va_Ql post (fun u => BX D A (w1 u)) A) av.toArray s mc ms A) (F0 m 0 ls [])) : WrL l D cI cB cZ cJ tx y cc mL ret F mc ms av ws post w1 :=
  wrl_of hy hn (fun p e s m below meth c A ls hC hK hP hD hA hS hl => body p e s m below meth c A ls s.heap [] hC hK hP hD hA hS hl)
theorem wrv_of2 {S : Type} {post : S → Prop} {w1 : S → va_W} (hy : plainName y.cls = true) (hn : (lg_sl av).length ≤ mL) (body : ∀ (p : Program) (e : Env) (s : State) (m : MethodId) (below : List Frame) (meth : Method) (c : Code) (A : Nat → Prop) (ls : Array Slot) (H : Heap) (locs : List Loc), CTX p s m meth c av.toArray y cc mL ret → KX D cI cB cZ cJ tx s → va_P D vwCl ws H → va_D A ws → (∀ q : Nat, s.heap.size ≤ q → A q) → va_S A s.heap H locs → lv_has ls mL (lv_args 0 av) →
    W p l e (rmX F mc ms) s m av.toArray below meth c H locs 0 0 (MQ below (va_Qv post (fun u => BX D A (w1 u)) A) av.toArray s mc ms A) (F0 m 0 ls [])) : WrV l D cI cB cZ cJ tx y cc mL ret F mc ms av ws post w1 :=
  wrv_of hy hn (fun p e s m below meth c A ls hC hK hP hD hA hS hl => body p e s m below meth c A ls s.heap [] hC hK hP hD hA hS hl)
end OPEN2
theorem bi_no {n lo hi : Int32} (h : hi < lo) : bi (lo ≤ n ∧ n ≤ hi) = 0 := if_neg (fun q => by
  have h1 := Int32.lt_iff_toInt_lt.mp h
  have h2 := Int32.le_iff_toInt_le.mp q.1
  have h3 := Int32.le_iff_toInt_le.mp q.2
  omega)
end
section
theorem k_0 : Cond.selects RX11 yX11_readText yX11_readText ∈ TBL := tb_ix 0 (by decide +kernel) rfl
theorem k_14 : Cond.selects RX4 yX4_set yX4_set ∈ TBL := tb_ix 14 (by decide +kernel) rfl
theorem k_15 : Cond.selects RX4 yX4_standAt yX4_standAt ∈ TBL := tb_ix 15 (by decide +kernel) rfl
theorem k_21 : Cond.selects RX4 yX4_touchAll yX4_touchAll ∈ TBL := tb_ix 21 (by decide +kernel) rfl
theorem k_37 : Cond.selects RX6 yX6_amount yX6_amount ∈ TBL := tb_ix 37 (by decide +kernel) rfl
theorem k_38 : Cond.selects RX6 yX6_weigh yX6_weigh ∈ TBL := tb_ix 38 (by decide +kernel) rfl
theorem k_47 : Cond.selects RX12 yX12_push yX12_push ∈ TBL := tb_ix 47 (by decide +kernel) rfl
theorem k_48 : Cond.selects RX12 yX12_readsText yX12_readsText ∈ TBL := tb_ix 48 (by decide +kernel) rfl
theorem k_68 : Cond.selects RX12 yX12_stands yX12_stands ∈ TBL := tb_ix 68 (by decide +kernel) rfl
theorem k_69 : Cond.selects RX12 yX12_clears yX12_clears ∈ TBL := tb_ix 69 (by decide +kernel) rfl
theorem k_70 : Cond.selects RX12 yX12_tells yX12_tells ∈ TBL := tb_ix 70 (by decide +kernel) rfl
theorem k_74 : Cond.selects RX12 yX12_changes yX12_changes ∈ TBL := tb_ix 74 (by decide +kernel) rfl
theorem k_77 : Cond.selects RX12 yX12_left yX12_left ∈ TBL := tb_ix 77 (by decide +kernel) rfl
theorem k_78 : Cond.selects RX12 yX12_isRivet yX12_isRivet ∈ TBL := tb_ix 78 (by decide +kernel) rfl
theorem k_79 : Cond.selects RX12 yX12_isStation yX12_isStation ∈ TBL := tb_ix 79 (by decide +kernel) rfl
theorem k_80 : Cond.selects RX12 yX12_isStrake yX12_isStrake ∈ TBL := tb_ix 80 (by decide +kernel) rfl
theorem k_82 : Cond.selects RX12 yX12_isDrawing yX12_isDrawing ∈ TBL := tb_ix 82 (by decide +kernel) rfl
theorem k_85 : Cond.selects RX12 yX12_areTwo yX12_areTwo ∈ TBL := tb_ix 85 (by decide +kernel) rfl
theorem k_94 : Cond.selects RX12 yX12_isBent yX12_isBent ∈ TBL := tb_ix 94 (by decide +kernel) rfl
theorem k_103 : Cond.selects RX12 yX12_muchAt yX12_muchAt ∈ TBL := tb_ix 103 (by decide +kernel) rfl
theorem k_105 : Cond.selects RX12 yX12_storiesTold yX12_storiesTold ∈ TBL := tb_ix 105 (by decide +kernel) rfl
theorem k_107 : Cond.selects RX12 yX12_areBent yX12_areBent ∈ TBL := tb_ix 107 (by decide +kernel) rfl
theorem k_115 : Cond.initialized RL ∈ TBL := in_0 0 (by decide +kernel) rfl
theorem k_116 : Cond.initialized RX11 ∈ TBL := in_0 1 (by decide +kernel) rfl
theorem k_117 : Cond.initialized RX8 ∈ TBL := in_0 2 (by decide +kernel) rfl
theorem k_118 : Cond.initialized RX3 ∈ TBL := in_0 3 (by decide +kernel) rfl
theorem k_119 : Cond.initialized RX9 ∈ TBL := in_0 4 (by decide +kernel) rfl
theorem k_120 : Cond.initialized RX4 ∈ TBL := in_0 5 (by decide +kernel) rfl
theorem k_121 : Cond.initialized RX0 ∈ TBL := in_0 6 (by decide +kernel) rfl
theorem k_122 : Cond.initialized RX2 ∈ TBL := in_0 7 (by decide +kernel) rfl
theorem k_123 : Cond.initialized RX1 ∈ TBL := in_0 8 (by decide +kernel) rfl
theorem k_124 : Cond.initialized RX5 ∈ TBL := in_0 9 (by decide +kernel) rfl
theorem k_125 : Cond.initialized RX10 ∈ TBL := in_0 10 (by decide +kernel) rfl
theorem k_126 : Cond.initialized RX6 ∈ TBL := in_0 11 (by decide +kernel) rfl
theorem k_127 : Cond.initialized RX7 ∈ TBL := in_0 12 (by decide +kernel) rfl
theorem k_128 : Cond.initialized RX12 ∈ TBL := in_0 13 (by decide +kernel) rfl
theorem k_129 : Cond.initialized "java/lang/String" ∈ TBL := in_0 14 (by decide +kernel) rfl
theorem k_130 : Cond.initialized "java/lang/StringLatin1" ∈ TBL := in_0 15 (by decide +kernel) rfl
theorem k_131 : Cond.initialized "java/lang/Math" ∈ TBL := in_0 16 (by decide +kernel) rfl
theorem k_132 : Cond.initialized "java/lang/StringUTF16" ∈ TBL := in_0 17 (by decide +kernel) rfl
theorem k_133 : Cond.initialized "jdk/internal/util/Preconditions" ∈ TBL := in_0 18 (by decide +kernel) rfl
theorem k_134 : Cond.initialized "java/lang/Character" ∈ TBL := in_0 19 (by decide +kernel) rfl
theorem k_135 : Cond.initialized RJ7 ∈ TBL := in_0 20 (by decide +kernel) rfl
theorem k_136 : Cond.classLink RL 7 RX11 ∈ TBL := in_0 21 (by decide +kernel) rfl
theorem k_137 : Cond.instantiable RX11 13 ∈ TBL := in_0 22 (by decide +kernel) rfl
theorem k_138 : Cond.methodLink RL 9 yX11_init ∈ TBL := in_0 23 (by decide +kernel) rfl
theorem k_139 : Cond.instanceMethod yX11_init ∈ TBL := in_0 24 (by decide +kernel) rfl
theorem k_140 : Cond.code yX11_init cX11_init 1 none ∈ TBL := in_0 25 (by decide +kernel) rfl
theorem k_141 : Cond.methodLink RX11 1 objectInit ∈ TBL := in_0 26 (by decide +kernel) rfl
theorem k_142 : Cond.instanceMethod objectInit ∈ TBL := in_0 27 (by decide +kernel) rfl
theorem k_143 : Cond.code objectInit ⟨#[0xb1]⟩ 1 none ∈ TBL := in_0 28 (by decide +kernel) rfl
theorem k_144 : Cond.classLink RX11 7 RX8 ∈ TBL := in_0 29 (by decide +kernel) rfl
theorem k_145 : Cond.instantiable RX8 2 ∈ TBL := in_0 30 (by decide +kernel) rfl
theorem k_147 : Cond.instanceMethod yX8_init ∈ TBL := in_0 32 (by decide +kernel) rfl
theorem k_148 : Cond.code yX8_init cX8_init 1 none ∈ TBL := in_0 33 (by decide +kernel) rfl
theorem k_149 : Cond.methodLink RX8 3 objectInit ∈ TBL := in_0 34 (by decide +kernel) rfl
theorem k_150 : Cond.fieldLink RX8 9 "NailStain$Tape" "bytes" "[B" ∈ TBL := in_0 35 (by decide +kernel) rfl
theorem k_151 : Cond.fieldLink RX8 15 "NailStain$Tape" "used" "I" ∈ TBL := in_0 36 (by decide +kernel) rfl
theorem k_158 : Cond.arrayClass .byte ∈ TBL := in_0 43 (by decide +kernel) rfl
theorem k_159 : Cond.classLink RX11 16 RX3 ∈ TBL := in_0 44 (by decide +kernel) rfl
theorem k_160 : Cond.instantiable RX3 7 ∈ TBL := in_0 45 (by decide +kernel) rfl
theorem k_161 : Cond.methodLink RX11 18 yX3_init ∈ TBL := in_0 46 (by decide +kernel) rfl
theorem k_162 : Cond.instanceMethod yX3_init ∈ TBL := in_0 47 (by decide +kernel) rfl
theorem k_163 : Cond.code yX3_init cX3_init 2 none ∈ TBL := in_0 48 (by decide +kernel) rfl
theorem k_164 : Cond.methodLink RX3 3 objectInit ∈ TBL := in_0 49 (by decide +kernel) rfl
theorem k_165 : Cond.fieldLink RX3 9 "NailStain$Parser" "tape" "LNailStain$Tape;" ∈ TBL := in_0 50 (by decide +kernel) rfl
theorem k_187 : Cond.classLink RX11 25 RX9 ∈ TBL := in_0 72 (by decide +kernel) rfl
theorem k_189 : Cond.instantiable RX9 9 ∈ TBL := in_0 74 (by decide +kernel) rfl
theorem k_191 : Cond.instanceMethod yX9_init ∈ TBL := in_0 76 (by decide +kernel) rfl
theorem k_192 : Cond.code yX9_init cX9_init 1 none ∈ TBL := in_0 77 (by decide +kernel) rfl
theorem k_193 : Cond.methodLink RX9 3 objectInit ∈ TBL := in_0 78 (by decide +kernel) rfl
theorem k_194 : Cond.fieldLink RX9 9 "NailStain$Text" "steps" "[I" ∈ TBL := in_0 79 (by decide +kernel) rfl
theorem k_195 : Cond.fieldLink RX9 15 "NailStain$Text" "stack" "[I" ∈ TBL := in_0 80 (by decide +kernel) rfl
theorem k_196 : Cond.fieldLink RX9 18 "NailStain$Text" "letterOf" "[I" ∈ TBL := in_0 81 (by decide +kernel) rfl
theorem k_197 : Cond.fieldLink RX9 21 "NailStain$Text" "numberFrom" "[I" ∈ TBL := in_0 82 (by decide +kernel) rfl
theorem k_198 : Cond.fieldLink RX9 24 "NailStain$Text" "conditionFrom" "[I" ∈ TBL := in_0 83 (by decide +kernel) rfl
theorem k_200 : Cond.fieldLink RX9 31 "NailStain$Text" "clauses" "I" ∈ TBL := in_0 85 (by decide +kernel) rfl
theorem k_224 : Cond.arrayClass .int ∈ TBL := in_0 109 (by decide +kernel) rfl
theorem k_225 : Cond.classLink RX11 36 RX4 ∈ TBL := in_0 110 (by decide +kernel) rfl
theorem k_226 : Cond.instantiable RX4 11 ∈ TBL := in_0 111 (by decide +kernel) rfl
theorem k_228 : Cond.instanceMethod yX4_init ∈ TBL := in_0 113 (by decide +kernel) rfl
theorem k_229 : Cond.code yX4_init cX4_init 1 none ∈ TBL := in_0 114 (by decide +kernel) rfl
theorem k_230 : Cond.methodLink RX4 3 objectInit ∈ TBL := in_0 115 (by decide +kernel) rfl
theorem k_231 : Cond.fieldLink RX4 9 "NailStain$Ship" "across" "[I" ∈ TBL := in_0 116 (by decide +kernel) rfl
theorem k_235 : Cond.fieldLink RX4 15 "NailStain$Ship" "deep" "[I" ∈ TBL := in_0 120 (by decide +kernel) rfl
theorem k_238 : Cond.fieldLink RX4 18 "NailStain$Ship" "sizeOf" "[I" ∈ TBL := in_0 123 (by decide +kernel) rfl
theorem k_241 : Cond.fieldLink RX4 21 "NailStain$Ship" "isGone" "[Z" ∈ TBL := in_0 126 (by decide +kernel) rfl
theorem k_243 : Cond.fieldLink RX4 25 "NailStain$Ship" "mounds" "[I" ∈ TBL := in_0 128 (by decide +kernel) rfl
theorem k_245 : Cond.fieldLink RX4 28 "NailStain$Ship" "changes" "[I" ∈ TBL := in_0 130 (by decide +kernel) rfl
theorem k_247 : Cond.fieldLink RX4 31 "NailStain$Ship" "letters" "[I" ∈ TBL := in_0 132 (by decide +kernel) rfl
theorem k_248 : Cond.fieldLink RX4 38 "NailStain$Ship" "stations" "I" ∈ TBL := in_0 133 (by decide +kernel) rfl
theorem k_257 : Cond.fieldLink RX4 45 "NailStain$Ship" "strakes" "I" ∈ TBL := in_0 142 (by decide +kernel) rfl
theorem k_261 : Cond.fieldLink RX4 49 "NailStain$Ship" "cutStations" "I" ∈ TBL := in_0 146 (by decide +kernel) rfl
theorem k_262 : Cond.fieldLink RX4 34 "NailStain$Ship" "chance" "I" ∈ TBL := in_0 147 (by decide +kernel) rfl
theorem k_287 : Cond.arrayClass .boolean ∈ TBL := in_0 172 (by decide +kernel) rfl
theorem k_288 : Cond.classLink RX11 43 RX0 ∈ TBL := in_0 173 (by decide +kernel) rfl
theorem k_289 : Cond.instantiable RX0 7 ∈ TBL := in_0 174 (by decide +kernel) rfl
theorem k_290 : Cond.methodLink RX11 45 yX0_init ∈ TBL := in_0 175 (by decide +kernel) rfl
theorem k_291 : Cond.instanceMethod yX0_init ∈ TBL := in_0 176 (by decide +kernel) rfl
theorem k_292 : Cond.code yX0_init cX0_init 2 none ∈ TBL := in_0 177 (by decide +kernel) rfl
theorem k_293 : Cond.methodLink RX0 3 objectInit ∈ TBL := in_0 178 (by decide +kernel) rfl
theorem k_294 : Cond.fieldLink RX0 28 "NailStain$Drawings" "ship" "LNailStain$Ship;" ∈ TBL := in_0 179 (by decide +kernel) rfl
theorem k_295 : Cond.fieldLink RX0 11 "NailStain$Drawings" "across" "[I" ∈ TBL := in_0 180 (by decide +kernel) rfl
theorem k_296 : Cond.fieldLink RX0 15 "NailStain$Drawings" "deep" "[I" ∈ TBL := in_0 181 (by decide +kernel) rfl
theorem k_297 : Cond.fieldLink RX0 18 "NailStain$Drawings" "isMarked" "[Z" ∈ TBL := in_0 182 (by decide +kernel) rfl
theorem k_298 : Cond.fieldLink RX0 22 "NailStain$Drawings" "gaps" "[I" ∈ TBL := in_0 183 (by decide +kernel) rfl
theorem k_299 : Cond.fieldLink RX0 25 "NailStain$Drawings" "deepGaps" "[I" ∈ TBL := in_0 184 (by decide +kernel) rfl
theorem k_300 : Cond.fieldLink RX0 32 "NailStain$Drawings" "made" "I" ∈ TBL := in_0 185 (by decide +kernel) rfl
theorem k_317 : Cond.classLink RX11 52 RX2 ∈ TBL := in_0 202 (by decide +kernel) rfl
theorem k_318 : Cond.instantiable RX2 12 ∈ TBL := in_0 203 (by decide +kernel) rfl
theorem k_319 : Cond.methodLink RX11 54 yX2_init ∈ TBL := in_0 204 (by decide +kernel) rfl
theorem k_320 : Cond.instanceMethod yX2_init ∈ TBL := in_0 205 (by decide +kernel) rfl
theorem k_321 : Cond.code yX2_init cX2_init 2 none ∈ TBL := in_0 206 (by decide +kernel) rfl
theorem k_322 : Cond.methodLink RX2 5 objectInit ∈ TBL := in_0 207 (by decide +kernel) rfl
theorem k_323 : Cond.constant RX2 38 (81862) ∈ TBL := in_0 208 (by decide +kernel) rfl
theorem k_324 : Cond.fieldLink RX2 49 "NailStain$Lines" "ship" "LNailStain$Ship;" ∈ TBL := in_0 209 (by decide +kernel) rfl
theorem k_325 : Cond.fieldLink RX2 11 "NailStain$Lines" "low" "[I" ∈ TBL := in_0 210 (by decide +kernel) rfl
theorem k_327 : Cond.fieldLink RX2 15 "NailStain$Lines" "high" "[I" ∈ TBL := in_0 212 (by decide +kernel) rfl
theorem k_329 : Cond.fieldLink RX2 18 "NailStain$Lines" "isSeen" "[Z" ∈ TBL := in_0 214 (by decide +kernel) rfl
theorem k_330 : Cond.fieldLink RX2 22 "NailStain$Lines" "line" "[I" ∈ TBL := in_0 215 (by decide +kernel) rfl
theorem k_331 : Cond.fieldLink RX2 25 "NailStain$Lines" "squares" "[J" ∈ TBL := in_0 216 (by decide +kernel) rfl
theorem k_333 : Cond.fieldLink RX2 29 "NailStain$Lines" "isTold" "[Z" ∈ TBL := in_0 218 (by decide +kernel) rfl
theorem k_334 : Cond.fieldLink RX2 32 "NailStain$Lines" "outOf" "[I" ∈ TBL := in_0 219 (by decide +kernel) rfl
theorem k_335 : Cond.fieldLink RX2 35 "NailStain$Lines" "changeOf" "[I" ∈ TBL := in_0 220 (by decide +kernel) rfl
theorem k_336 : Cond.fieldLink RX2 39 "NailStain$Lines" "bestBehind" "[B" ∈ TBL := in_0 221 (by decide +kernel) rfl
theorem k_337 : Cond.fieldLink RX2 43 "NailStain$Lines" "squaresHere" "[J" ∈ TBL := in_0 222 (by decide +kernel) rfl
theorem k_338 : Cond.fieldLink RX2 46 "NailStain$Lines" "squaresBehind" "[J" ∈ TBL := in_0 223 (by decide +kernel) rfl
theorem k_364 : Cond.arrayClass .long ∈ TBL := in_1 9 (by decide +kernel) rfl
theorem k_365 : Cond.classLink RX11 59 RX1 ∈ TBL := in_1 10 (by decide +kernel) rfl
theorem k_366 : Cond.instantiable RX1 7 ∈ TBL := in_1 11 (by decide +kernel) rfl
theorem k_367 : Cond.methodLink RX11 61 yX1_init ∈ TBL := in_1 12 (by decide +kernel) rfl
theorem k_368 : Cond.instanceMethod yX1_init ∈ TBL := in_1 13 (by decide +kernel) rfl
theorem k_369 : Cond.code yX1_init cX1_init 3 none ∈ TBL := in_1 14 (by decide +kernel) rfl
theorem k_370 : Cond.methodLink RX1 3 objectInit ∈ TBL := in_1 15 (by decide +kernel) rfl
theorem k_371 : Cond.fieldLink RX1 25 "NailStain$Hull" "ship" "LNailStain$Ship;" ∈ TBL := in_1 16 (by decide +kernel) rfl
theorem k_372 : Cond.fieldLink RX1 29 "NailStain$Hull" "lines" "LNailStain$Lines;" ∈ TBL := in_1 17 (by decide +kernel) rfl
theorem k_373 : Cond.fieldLink RX1 9 "NailStain$Hull" "lengthTo" "[I" ∈ TBL := in_1 18 (by decide +kernel) rfl
theorem k_374 : Cond.fieldLink RX1 15 "NailStain$Hull" "needed" "[I" ∈ TBL := in_1 19 (by decide +kernel) rfl
theorem k_375 : Cond.fieldLink RX1 18 "NailStain$Hull" "isBarred" "[Z" ∈ TBL := in_1 20 (by decide +kernel) rfl
theorem k_376 : Cond.fieldLink RX1 22 "NailStain$Hull" "meetingAt" "[I" ∈ TBL := in_1 21 (by decide +kernel) rfl
theorem k_395 : Cond.classLink RX11 68 RX5 ∈ TBL := in_1 40 (by decide +kernel) rfl
theorem k_396 : Cond.instantiable RX5 6 ∈ TBL := in_1 41 (by decide +kernel) rfl
theorem k_397 : Cond.methodLink RX11 70 yX5_init ∈ TBL := in_1 42 (by decide +kernel) rfl
theorem k_398 : Cond.instanceMethod yX5_init ∈ TBL := in_1 43 (by decide +kernel) rfl
theorem k_399 : Cond.code yX5_init cX5_init 2 none ∈ TBL := in_1 44 (by decide +kernel) rfl
theorem k_400 : Cond.methodLink RX5 3 objectInit ∈ TBL := in_1 45 (by decide +kernel) rfl
theorem k_401 : Cond.fieldLink RX5 15 "NailStain$Sizes" "ship" "LNailStain$Ship;" ∈ TBL := in_1 46 (by decide +kernel) rfl
theorem k_402 : Cond.fieldLink RX5 9 "NailStain$Sizes" "having" "[I" ∈ TBL := in_1 47 (by decide +kernel) rfl
theorem k_422 : Cond.classLink RX11 75 RX10 ∈ TBL := in_1 67 (by decide +kernel) rfl
theorem k_423 : Cond.instantiable RX10 2 ∈ TBL := in_1 68 (by decide +kernel) rfl
theorem k_424 : Cond.methodLink RX11 77 yX10_init ∈ TBL := in_1 69 (by decide +kernel) rfl
theorem k_425 : Cond.instanceMethod yX10_init ∈ TBL := in_1 70 (by decide +kernel) rfl
theorem k_426 : Cond.code yX10_init cX10_init 2 none ∈ TBL := in_1 71 (by decide +kernel) rfl
theorem k_427 : Cond.methodLink RX10 3 objectInit ∈ TBL := in_1 72 (by decide +kernel) rfl
theorem k_428 : Cond.fieldLink RX10 15 "NailStain$Tholes" "ship" "LNailStain$Ship;" ∈ TBL := in_1 73 (by decide +kernel) rfl
theorem k_429 : Cond.fieldLink RX10 9 "NailStain$Tholes" "told" "[I" ∈ TBL := in_1 74 (by decide +kernel) rfl
theorem k_435 : Cond.classLink RX11 82 RX6 ∈ TBL := in_1 80 (by decide +kernel) rfl
theorem k_436 : Cond.instantiable RX6 6 ∈ TBL := in_1 81 (by decide +kernel) rfl
theorem k_438 : Cond.instanceMethod yX6_init ∈ TBL := in_1 83 (by decide +kernel) rfl
theorem k_439 : Cond.code yX6_init cX6_init 1 none ∈ TBL := in_1 84 (by decide +kernel) rfl
theorem k_440 : Cond.methodLink RX6 1 objectInit ∈ TBL := in_1 85 (by decide +kernel) rfl
theorem k_441 : Cond.fieldLink RX6 9 "NailStain$Soil" "cells" "[I" ∈ TBL := in_1 86 (by decide +kernel) rfl
theorem k_442 : Cond.fieldLink RX6 31 "NailStain$Soil" "bestColumn" "I" ∈ TBL := in_1 87 (by decide +kernel) rfl
theorem k_444 : Cond.fieldLink RX6 34 "NailStain$Soil" "bestRow" "I" ∈ TBL := in_1 89 (by decide +kernel) rfl
theorem k_446 : Cond.fieldLink RX6 13 "NailStain$Soil" "most" "I" ∈ TBL := in_1 91 (by decide +kernel) rfl
theorem k_448 : Cond.fieldLink RX6 17 "NailStain$Soil" "rank" "I" ∈ TBL := in_1 93 (by decide +kernel) rfl
theorem k_450 : Cond.fieldLink RX6 20 "NailStain$Soil" "places" "I" ∈ TBL := in_1 95 (by decide +kernel) rfl
theorem k_465 : Cond.classLink RX11 89 RX7 ∈ TBL := in_1 110 (by decide +kernel) rfl
theorem k_466 : Cond.instantiable RX7 3 ∈ TBL := in_1 111 (by decide +kernel) rfl
theorem k_468 : Cond.instanceMethod yX7_init ∈ TBL := in_1 113 (by decide +kernel) rfl
theorem k_469 : Cond.code yX7_init cX7_init 1 none ∈ TBL := in_1 114 (by decide +kernel) rfl
theorem k_470 : Cond.methodLink RX7 3 objectInit ∈ TBL := in_1 115 (by decide +kernel) rfl
theorem k_471 : Cond.fieldLink RX7 11 "NailStain$Stories" "thousandths" "[I" ∈ TBL := in_1 116 (by decide +kernel) rfl
theorem k_472 : Cond.fieldLink RX7 15 "NailStain$Stories" "isTold" "[Z" ∈ TBL := in_1 117 (by decide +kernel) rfl
theorem k_474 : Cond.fieldLink RX7 19 "NailStain$Stories" "signs" "[I" ∈ TBL := in_1 119 (by decide +kernel) rfl
theorem k_483 : Cond.fieldLink RX11 10 "NailStain" "tape" "LNailStain$Tape;" ∈ TBL := in_1 128 (by decide +kernel) rfl
theorem k_484 : Cond.fieldLink RX11 21 "NailStain" "parser" "LNailStain$Parser;" ∈ TBL := in_1 129 (by decide +kernel) rfl
theorem k_485 : Cond.fieldLink RX11 28 "NailStain" "texts" "[LNailStain$Text;" ∈ TBL := in_1 130 (by decide +kernel) rfl
theorem k_486 : Cond.fieldLink RX11 32 "NailStain" "stainLetters" "[I" ∈ TBL := in_1 131 (by decide +kernel) rfl
theorem k_487 : Cond.fieldLink RX11 39 "NailStain" "ship" "LNailStain$Ship;" ∈ TBL := in_1 132 (by decide +kernel) rfl
theorem k_488 : Cond.fieldLink RX11 48 "NailStain" "drawings" "LNailStain$Drawings;" ∈ TBL := in_1 133 (by decide +kernel) rfl
theorem k_489 : Cond.fieldLink RX11 55 "NailStain" "lines" "LNailStain$Lines;" ∈ TBL := in_1 134 (by decide +kernel) rfl
theorem k_490 : Cond.fieldLink RX11 64 "NailStain" "hull" "LNailStain$Hull;" ∈ TBL := in_1 135 (by decide +kernel) rfl
theorem k_491 : Cond.fieldLink RX11 71 "NailStain" "sizes" "LNailStain$Sizes;" ∈ TBL := in_1 136 (by decide +kernel) rfl
theorem k_492 : Cond.fieldLink RX11 78 "NailStain" "tholes" "LNailStain$Tholes;" ∈ TBL := in_1 137 (by decide +kernel) rfl
theorem k_493 : Cond.fieldLink RX11 85 "NailStain" "soil" "LNailStain$Soil;" ∈ TBL := in_1 138 (by decide +kernel) rfl
theorem k_494 : Cond.fieldLink RX11 92 "NailStain" "stories" "LNailStain$Stories;" ∈ TBL := in_1 139 (by decide +kernel) rfl
theorem k_495 : Cond.fieldLink RX11 96 "NailStain" "apart" "I" ∈ TBL := in_1 140 (by decide +kernel) rfl
theorem k_523 : Cond.methodLink RL 13 yX11_pitch ∈ TBL := in_1 168 (by decide +kernel) rfl
theorem k_524 : Cond.instanceMethod yX11_pitch ∈ TBL := in_1 169 (by decide +kernel) rfl
theorem k_525 : Cond.selects RX11 yX11_pitch yX11_pitch ∈ TBL := in_1 170 (by decide +kernel) rfl
theorem k_526 : Cond.code yX11_pitch cX11_pitch 2 (some .boolean) ∈ TBL := in_1 171 (by decide +kernel) rfl
theorem k_527 : Cond.methodLink RX11 100 yX11_within ∈ TBL := in_1 172 (by decide +kernel) rfl
theorem k_528 : Cond.static yX11_within ∈ TBL := in_1 173 (by decide +kernel) rfl
theorem k_529 : Cond.code yX11_within cX11_within 3 (some .boolean) ∈ TBL := in_1 174 (by decide +kernel) rfl
theorem k_530 : Cond.methodLink RL 18 yX11_seed ∈ TBL := in_1 175 (by decide +kernel) rfl
theorem k_531 : Cond.instanceMethod yX11_seed ∈ TBL := in_1 176 (by decide +kernel) rfl
theorem k_532 : Cond.selects RX11 yX11_seed yX11_seed ∈ TBL := in_1 177 (by decide +kernel) rfl
theorem k_533 : Cond.code yX11_seed cX11_seed 2 (some .boolean) ∈ TBL := in_1 178 (by decide +kernel) rfl
theorem k_534 : Cond.constant RX11 104 (65535) ∈ TBL := in_1 179 (by decide +kernel) rfl
theorem k_535 : Cond.methodLink RL 22 yX11_feed ∈ TBL := in_1 180 (by decide +kernel) rfl
theorem k_536 : Cond.instanceMethod yX11_feed ∈ TBL := in_1 181 (by decide +kernel) rfl
theorem k_537 : Cond.selects RX11 yX11_feed yX11_feed ∈ TBL := in_1 182 (by decide +kernel) rfl
theorem k_538 : Cond.code yX11_feed cX11_feed 6 (some .int) ∈ TBL := in_1 183 (by decide +kernel) rfl
theorem k_539 : Cond.methodLink RX11 108 yX8_hasRoom ∈ TBL := in_1 184 (by decide +kernel) rfl
theorem k_540 : Cond.instanceMethod yX8_hasRoom ∈ TBL := in_1 185 (by decide +kernel) rfl
theorem k_541 : Cond.selects RX8 yX8_hasRoom yX8_hasRoom ∈ TBL := in_1 186 (by decide +kernel) rfl
theorem k_542 : Cond.code yX8_hasRoom cX8_hasRoom 2 (some .boolean) ∈ TBL := in_1 187 (by decide +kernel) rfl
theorem k_543 : Cond.methodLink RX11 112 yX8_put ∈ TBL := in_1 188 (by decide +kernel) rfl
theorem k_544 : Cond.instanceMethod yX8_put ∈ TBL := in_1 189 (by decide +kernel) rfl
theorem k_545 : Cond.selects RX8 yX8_put yX8_put ∈ TBL := in_1 190 (by decide +kernel) rfl
theorem k_546 : Cond.code yX8_put cX8_put 3 none ∈ TBL := in_1 191 (by decide +kernel) rfl
theorem k_547 : Cond.methodLink RL 27 yX11_rule ∈ TBL := in_1 192 (by decide +kernel) rfl
theorem k_548 : Cond.instanceMethod yX11_rule ∈ TBL := in_1 193 (by decide +kernel) rfl
theorem k_549 : Cond.selects RX11 yX11_rule yX11_rule ∈ TBL := in_1 194 (by decide +kernel) rfl
theorem k_550 : Cond.code yX11_rule cX11_rule 2 (some .int) ∈ TBL := in_1 195 (by decide +kernel) rfl
theorem k_552 : Cond.methodLink RX11 121 yX11_readText ∈ TBL := in_1 197 (by decide +kernel) rfl
theorem k_554 : Cond.instanceMethod yX11_readText ∈ TBL := in_1 199 (by decide +kernel) rfl
theorem k_555 : Cond.code yX11_readText cX11_readText 6 (some .int) ∈ TBL := in_1 200 (by decide +kernel) rfl
theorem k_556 : Cond.methodLink RX11 129 yX3_read ∈ TBL := in_1 201 (by decide +kernel) rfl
theorem k_605 : Cond.static Lib.Math.max.name ∈ TBL := in_2 10 (by decide +kernel) rfl
theorem k_606 : Cond.code Lib.Math.max.name Lib.Math.max.code 2 (some .int) ∈ TBL := in_2 11 (by decide +kernel) rfl
theorem k_608 : Cond.static Lib.Math.min.name ∈ TBL := in_2 13 (by decide +kernel) rfl
theorem k_609 : Cond.code Lib.Math.min.name Lib.Math.min.code 2 (some .int) ∈ TBL := in_2 14 (by decide +kernel) rfl
theorem k_735 : Cond.methodLink RX11 133 yX8_empty ∈ TBL := in_2 140 (by decide +kernel) rfl
theorem k_739 : Cond.methodLink RL 32 yX11_sand ∈ TBL := in_2 144 (by decide +kernel) rfl
theorem k_740 : Cond.instanceMethod yX11_sand ∈ TBL := in_2 145 (by decide +kernel) rfl
theorem k_741 : Cond.selects RX11 yX11_sand yX11_sand ∈ TBL := in_2 146 (by decide +kernel) rfl
theorem k_742 : Cond.code yX11_sand cX11_sand 2 (some .int) ∈ TBL := in_2 147 (by decide +kernel) rfl
theorem k_744 : Cond.methodLink RL 36 yX11_stain ∈ TBL := in_2 149 (by decide +kernel) rfl
theorem k_745 : Cond.instanceMethod yX11_stain ∈ TBL := in_2 150 (by decide +kernel) rfl
theorem k_746 : Cond.selects RX11 yX11_stain yX11_stain ∈ TBL := in_2 151 (by decide +kernel) rfl
theorem k_747 : Cond.code yX11_stain cX11_stain 2 (some .int) ∈ TBL := in_2 152 (by decide +kernel) rfl
theorem k_749 : Cond.methodLink RL 40 yX11_build ∈ TBL := in_2 154 (by decide +kernel) rfl
theorem k_750 : Cond.instanceMethod yX11_build ∈ TBL := in_2 155 (by decide +kernel) rfl
theorem k_751 : Cond.selects RX11 yX11_build yX11_build ∈ TBL := in_2 156 (by decide +kernel) rfl
theorem k_752 : Cond.code yX11_build cX11_build 3 (some .int) ∈ TBL := in_2 157 (by decide +kernel) rfl
theorem k_753 : Cond.methodLink RX11 136 yX0_fall ∈ TBL := in_2 158 (by decide +kernel) rfl
theorem k_754 : Cond.instanceMethod yX0_fall ∈ TBL := in_2 159 (by decide +kernel) rfl
theorem k_755 : Cond.selects RX0 yX0_fall yX0_fall ∈ TBL := in_2 160 (by decide +kernel) rfl
theorem k_756 : Cond.code yX0_fall cX0_fall 1 none ∈ TBL := in_2 161 (by decide +kernel) rfl
theorem k_757 : Cond.methodLink RX11 139 yX10_fall ∈ TBL := in_2 162 (by decide +kernel) rfl
theorem k_758 : Cond.instanceMethod yX10_fall ∈ TBL := in_2 163 (by decide +kernel) rfl
theorem k_759 : Cond.selects RX10 yX10_fall yX10_fall ∈ TBL := in_2 164 (by decide +kernel) rfl
theorem k_760 : Cond.code yX10_fall cX10_fall 1 none ∈ TBL := in_2 165 (by decide +kernel) rfl
theorem k_761 : Cond.methodLink RX10 19 yJ7_fill_53178 ∈ TBL := in_2 166 (by decide +kernel) rfl
theorem k_762 : Cond.static yJ7_fill_53178 ∈ TBL := in_2 167 (by decide +kernel) rfl
theorem k_763 : Cond.code yJ7_fill_53178 cJ7_fill_53178 4 none ∈ TBL := in_2 168 (by decide +kernel) rfl
theorem k_764 : Cond.methodLink RX11 140 yX4_raise ∈ TBL := in_2 169 (by decide +kernel) rfl
theorem k_765 : Cond.instanceMethod yX4_raise ∈ TBL := in_2 170 (by decide +kernel) rfl
theorem k_766 : Cond.selects RX4 yX4_raise yX4_raise ∈ TBL := in_2 171 (by decide +kernel) rfl
theorem k_767 : Cond.code yX4_raise cX4_raise 7 (some .int) ∈ TBL := in_2 172 (by decide +kernel) rfl
theorem k_768 : Cond.methodLink RX4 52 yJ7_fill_53178 ∈ TBL := in_2 173 (by decide +kernel) rfl
theorem k_769 : Cond.methodLink RX4 58 yX4_set ∈ TBL := in_2 174 (by decide +kernel) rfl
theorem k_771 : Cond.instanceMethod yX4_set ∈ TBL := in_2 176 (by decide +kernel) rfl
theorem k_772 : Cond.code yX4_set cX4_set 6 none ∈ TBL := in_2 177 (by decide +kernel) rfl
theorem k_773 : Cond.methodLink RX4 65 yX4_rivetAt ∈ TBL := in_2 178 (by decide +kernel) rfl
theorem k_774 : Cond.instanceMethod yX4_rivetAt ∈ TBL := in_2 179 (by decide +kernel) rfl
theorem k_775 : Cond.selects RX4 yX4_rivetAt yX4_rivetAt ∈ TBL := in_2 180 (by decide +kernel) rfl
theorem k_776 : Cond.code yX4_rivetAt cX4_rivetAt 4 (some .int) ∈ TBL := in_2 181 (by decide +kernel) rfl
theorem k_778 : Cond.methodLink RX4 69 yX4_standAt ∈ TBL := in_2 183 (by decide +kernel) rfl
theorem k_780 : Cond.instanceMethod yX4_standAt ∈ TBL := in_2 185 (by decide +kernel) rfl
theorem k_781 : Cond.code yX4_standAt cX4_standAt 4 none ∈ TBL := in_2 186 (by decide +kernel) rfl
theorem k_782 : Cond.methodLink RX4 79 Lib.Math.min.name ∈ TBL := in_2 187 (by decide +kernel) rfl
theorem k_783 : Cond.methodLink RX4 73 yX9_value ∈ TBL := in_2 188 (by decide +kernel) rfl
theorem k_784 : Cond.instanceMethod yX9_value ∈ TBL := in_2 189 (by decide +kernel) rfl
theorem k_785 : Cond.selects RX9 yX9_value yX9_value ∈ TBL := in_2 190 (by decide +kernel) rfl
theorem k_786 : Cond.code yX9_value cX9_value 6 (some .int) ∈ TBL := in_2 191 (by decide +kernel) rfl
theorem k_787 : Cond.methodLink RX9 34 yX9_run ∈ TBL := in_2 192 (by decide +kernel) rfl
theorem k_812 : Cond.methodLink RX4 62 yX4_touchAll ∈ TBL := in_2 217 (by decide +kernel) rfl
theorem k_814 : Cond.instanceMethod yX4_touchAll ∈ TBL := in_2 219 (by decide +kernel) rfl
theorem k_815 : Cond.code yX4_touchAll cX4_touchAll 2 none ∈ TBL := in_2 220 (by decide +kernel) rfl
theorem k_816 : Cond.methodLink RL 45 yX11_mound ∈ TBL := in_2 221 (by decide +kernel) rfl
theorem k_817 : Cond.instanceMethod yX11_mound ∈ TBL := in_2 222 (by decide +kernel) rfl
theorem k_818 : Cond.selects RX11 yX11_mound yX11_mound ∈ TBL := in_2 223 (by decide +kernel) rfl
theorem k_819 : Cond.code yX11_mound cX11_mound 3 (some .boolean) ∈ TBL := in_2 224 (by decide +kernel) rfl
theorem k_820 : Cond.methodLink RL 50 yX11_bury ∈ TBL := in_2 225 (by decide +kernel) rfl
theorem k_821 : Cond.instanceMethod yX11_bury ∈ TBL := in_2 226 (by decide +kernel) rfl
theorem k_822 : Cond.selects RX11 yX11_bury yX11_bury ∈ TBL := in_2 227 (by decide +kernel) rfl
theorem k_823 : Cond.code yX11_bury cX11_bury 2 (some .int) ∈ TBL := in_2 228 (by decide +kernel) rfl
theorem k_824 : Cond.methodLink RX11 147 yX4_stands ∈ TBL := in_2 229 (by decide +kernel) rfl
theorem k_825 : Cond.instanceMethod yX4_stands ∈ TBL := in_2 230 (by decide +kernel) rfl
theorem k_826 : Cond.selects RX4 yX4_stands yX4_stands ∈ TBL := in_2 231 (by decide +kernel) rfl
theorem k_827 : Cond.code yX4_stands cX4_stands 1 (some .boolean) ∈ TBL := in_2 232 (by decide +kernel) rfl
theorem k_828 : Cond.methodLink RX11 151 yX4_sink ∈ TBL := in_2 233 (by decide +kernel) rfl
theorem k_842 : Cond.methodLink RX11 155 yX4_left ∈ TBL := in_3 7 (by decide +kernel) rfl
theorem k_843 : Cond.instanceMethod yX4_left ∈ TBL := in_3 8 (by decide +kernel) rfl
theorem k_844 : Cond.selects RX4 yX4_left yX4_left ∈ TBL := in_3 9 (by decide +kernel) rfl
theorem k_845 : Cond.code yX4_left cX4_left 6 (some .int) ∈ TBL := in_3 10 (by decide +kernel) rfl
theorem k_846 : Cond.methodLink RL 54 yX11_lies ∈ TBL := in_3 11 (by decide +kernel) rfl
theorem k_847 : Cond.instanceMethod yX11_lies ∈ TBL := in_3 12 (by decide +kernel) rfl
theorem k_848 : Cond.selects RX11 yX11_lies yX11_lies ∈ TBL := in_3 13 (by decide +kernel) rfl
theorem k_849 : Cond.code yX11_lies cX11_lies 7 (some .boolean) ∈ TBL := in_3 14 (by decide +kernel) rfl
theorem k_850 : Cond.methodLink RX11 159 yX4_rivetAt ∈ TBL := in_3 15 (by decide +kernel) rfl
theorem k_851 : Cond.methodLink RX11 163 yX4_tell ∈ TBL := in_3 16 (by decide +kernel) rfl
theorem k_855 : Cond.methodLink RL 59 yX11_gone ∈ TBL := in_3 20 (by decide +kernel) rfl
theorem k_856 : Cond.instanceMethod yX11_gone ∈ TBL := in_3 21 (by decide +kernel) rfl
theorem k_857 : Cond.selects RX11 yX11_gone yX11_gone ∈ TBL := in_3 22 (by decide +kernel) rfl
theorem k_858 : Cond.code yX11_gone cX11_gone 5 (some .boolean) ∈ TBL := in_3 23 (by decide +kernel) rfl
theorem k_859 : Cond.methodLink RX11 171 yX4_lose ∈ TBL := in_3 24 (by decide +kernel) rfl
theorem k_863 : Cond.methodLink RL 64 yX11_rivet ∈ TBL := in_3 28 (by decide +kernel) rfl
theorem k_864 : Cond.instanceMethod yX11_rivet ∈ TBL := in_3 29 (by decide +kernel) rfl
theorem k_865 : Cond.selects RX11 yX11_rivet yX11_rivet ∈ TBL := in_3 30 (by decide +kernel) rfl
theorem k_866 : Cond.code yX11_rivet cX11_rivet 6 (some .int) ∈ TBL := in_3 31 (by decide +kernel) rfl
theorem k_867 : Cond.methodLink RX11 184 yX4_isSeen ∈ TBL := in_3 32 (by decide +kernel) rfl
theorem k_875 : Cond.methodLink RL 69 yX11_cut ∈ TBL := in_3 40 (by decide +kernel) rfl
theorem k_876 : Cond.instanceMethod yX11_cut ∈ TBL := in_3 41 (by decide +kernel) rfl
theorem k_877 : Cond.selects RX11 yX11_cut yX11_cut ∈ TBL := in_3 42 (by decide +kernel) rfl
theorem k_878 : Cond.code yX11_cut cX11_cut 2 (some .boolean) ∈ TBL := in_3 43 (by decide +kernel) rfl
theorem k_879 : Cond.methodLink RX11 188 yX4_allStations ∈ TBL := in_3 44 (by decide +kernel) rfl
theorem k_880 : Cond.instanceMethod yX4_allStations ∈ TBL := in_3 45 (by decide +kernel) rfl
theorem k_881 : Cond.selects RX4 yX4_allStations yX4_allStations ∈ TBL := in_3 46 (by decide +kernel) rfl
theorem k_882 : Cond.code yX4_allStations cX4_allStations 1 (some .int) ∈ TBL := in_3 47 (by decide +kernel) rfl
theorem k_883 : Cond.methodLink RX11 191 yX4_cutAway ∈ TBL := in_3 48 (by decide +kernel) rfl
theorem k_884 : Cond.instanceMethod yX4_cutAway ∈ TBL := in_3 49 (by decide +kernel) rfl
theorem k_885 : Cond.selects RX4 yX4_cutAway yX4_cutAway ∈ TBL := in_3 50 (by decide +kernel) rfl
theorem k_886 : Cond.code yX4_cutAway cX4_cutAway 2 none ∈ TBL := in_3 51 (by decide +kernel) rfl
theorem k_887 : Cond.methodLink RL 73 yX11_drawing ∈ TBL := in_3 52 (by decide +kernel) rfl
theorem k_888 : Cond.instanceMethod yX11_drawing ∈ TBL := in_3 53 (by decide +kernel) rfl
theorem k_889 : Cond.selects RX11 yX11_drawing yX11_drawing ∈ TBL := in_3 54 (by decide +kernel) rfl
theorem k_890 : Cond.code yX11_drawing cX11_drawing 2 (some .int) ∈ TBL := in_3 55 (by decide +kernel) rfl
theorem k_891 : Cond.methodLink RX11 194 yX0_begin ∈ TBL := in_3 56 (by decide +kernel) rfl
theorem k_895 : Cond.methodLink RL 77 yX11_mark ∈ TBL := in_3 60 (by decide +kernel) rfl
theorem k_896 : Cond.instanceMethod yX11_mark ∈ TBL := in_3 61 (by decide +kernel) rfl
theorem k_897 : Cond.selects RX11 yX11_mark yX11_mark ∈ TBL := in_3 62 (by decide +kernel) rfl
theorem k_898 : Cond.code yX11_mark cX11_mark 8 (some .boolean) ∈ TBL := in_3 63 (by decide +kernel) rfl
theorem k_899 : Cond.methodLink RX11 197 yX0_has ∈ TBL := in_3 64 (by decide +kernel) rfl
theorem k_900 : Cond.instanceMethod yX0_has ∈ TBL := in_3 65 (by decide +kernel) rfl
theorem k_901 : Cond.selects RX0 yX0_has yX0_has ∈ TBL := in_3 66 (by decide +kernel) rfl
theorem k_902 : Cond.code yX0_has cX0_has 2 (some .boolean) ∈ TBL := in_3 67 (by decide +kernel) rfl
theorem k_904 : Cond.methodLink RX11 200 yX0_put ∈ TBL := in_3 69 (by decide +kernel) rfl
theorem k_908 : Cond.methodLink RL 82 yX11_draw ∈ TBL := in_3 73 (by decide +kernel) rfl
theorem k_909 : Cond.instanceMethod yX11_draw ∈ TBL := in_3 74 (by decide +kernel) rfl
theorem k_910 : Cond.selects RX11 yX11_draw yX11_draw ∈ TBL := in_3 75 (by decide +kernel) rfl
theorem k_911 : Cond.code yX11_draw cX11_draw 5 (some .int) ∈ TBL := in_3 76 (by decide +kernel) rfl
theorem k_912 : Cond.methodLink RX11 202 yX0_take ∈ TBL := in_3 77 (by decide +kernel) rfl
theorem k_920 : Cond.methodLink RX11 205 yX0_marksOf ∈ TBL := in_3 85 (by decide +kernel) rfl
theorem k_928 : Cond.methodLink RX0 40 yX0_has ∈ TBL := in_3 93 (by decide +kernel) rfl
theorem k_929 : Cond.methodLink RL 86 yX11_marked ∈ TBL := in_3 94 (by decide +kernel) rfl
theorem k_930 : Cond.instanceMethod yX11_marked ∈ TBL := in_3 95 (by decide +kernel) rfl
theorem k_931 : Cond.selects RX11 yX11_marked yX11_marked ∈ TBL := in_3 96 (by decide +kernel) rfl
theorem k_932 : Cond.code yX11_marked cX11_marked 7 (some .int) ∈ TBL := in_3 97 (by decide +kernel) rfl
theorem k_933 : Cond.methodLink RX11 209 yX0_hasMark ∈ TBL := in_3 98 (by decide +kernel) rfl
theorem k_934 : Cond.methodLink RX11 212 yX0_at ∈ TBL := in_3 99 (by decide +kernel) rfl
theorem k_938 : Cond.methodLink RL 90 yX11_joined ∈ TBL := in_3 103 (by decide +kernel) rfl
theorem k_939 : Cond.instanceMethod yX11_joined ∈ TBL := in_3 104 (by decide +kernel) rfl
theorem k_940 : Cond.selects RX11 yX11_joined yX11_joined ∈ TBL := in_3 105 (by decide +kernel) rfl
theorem k_941 : Cond.code yX11_joined cX11_joined 5 (some .int) ∈ TBL := in_3 106 (by decide +kernel) rfl
theorem k_942 : Cond.methodLink RX11 215 yX0_areTwo ∈ TBL := in_3 107 (by decide +kernel) rfl
theorem k_943 : Cond.instanceMethod yX0_areTwo ∈ TBL := in_3 108 (by decide +kernel) rfl
theorem k_944 : Cond.selects RX0 yX0_areTwo yX0_areTwo ∈ TBL := in_3 109 (by decide +kernel) rfl
theorem k_945 : Cond.code yX0_areTwo cX0_areTwo 3 (some .boolean) ∈ TBL := in_3 110 (by decide +kernel) rfl
theorem k_946 : Cond.constant RX11 218 (-1000000) ∈ TBL := in_3 111 (by decide +kernel) rfl
theorem k_947 : Cond.methodLink RX11 219 yX0_common ∈ TBL := in_3 112 (by decide +kernel) rfl
theorem k_956 : Cond.methodLink RX11 223 yX0_shift ∈ TBL := in_3 121 (by decide +kernel) rfl
theorem k_966 : Cond.methodLink RX11 226 yX0_rest ∈ TBL := in_3 131 (by decide +kernel) rfl
theorem k_973 : Cond.methodLink RL 95 yX11_off ∈ TBL := in_3 138 (by decide +kernel) rfl
theorem k_974 : Cond.instanceMethod yX11_off ∈ TBL := in_3 139 (by decide +kernel) rfl
theorem k_975 : Cond.selects RX11 yX11_off yX11_off ∈ TBL := in_3 140 (by decide +kernel) rfl
theorem k_976 : Cond.code yX11_off cX11_off 4 (some .int) ∈ TBL := in_3 141 (by decide +kernel) rfl
theorem k_977 : Cond.methodLink RX11 229 yX0_farther ∈ TBL := in_3 142 (by decide +kernel) rfl
theorem k_981 : Cond.methodLink RL 99 yX11_slipped ∈ TBL := in_3 146 (by decide +kernel) rfl
theorem k_982 : Cond.instanceMethod yX11_slipped ∈ TBL := in_3 147 (by decide +kernel) rfl
theorem k_983 : Cond.selects RX11 yX11_slipped yX11_slipped ∈ TBL := in_3 148 (by decide +kernel) rfl
theorem k_984 : Cond.code yX11_slipped cX11_slipped 10 (some .int) ∈ TBL := in_3 149 (by decide +kernel) rfl
theorem k_985 : Cond.methodLink RX11 232 yX0_distance ∈ TBL := in_3 150 (by decide +kernel) rfl
theorem k_990 : Cond.methodLink RL 104 yX11_span ∈ TBL := in_3 155 (by decide +kernel) rfl
theorem k_991 : Cond.instanceMethod yX11_span ∈ TBL := in_3 156 (by decide +kernel) rfl
theorem k_992 : Cond.selects RX11 yX11_span yX11_span ∈ TBL := in_3 157 (by decide +kernel) rfl
theorem k_993 : Cond.code yX11_span cX11_span 5 (some .int) ∈ TBL := in_3 158 (by decide +kernel) rfl
theorem k_994 : Cond.methodLink RX11 238 yX2_spread ∈ TBL := in_3 159 (by decide +kernel) rfl
theorem k_1011 : Cond.methodLink RL 108 yX11_batten ∈ TBL := in_3 176 (by decide +kernel) rfl
theorem k_1012 : Cond.instanceMethod yX11_batten ∈ TBL := in_3 177 (by decide +kernel) rfl
theorem k_1013 : Cond.selects RX11 yX11_batten yX11_batten ∈ TBL := in_3 178 (by decide +kernel) rfl
theorem k_1014 : Cond.code yX11_batten cX11_batten 4 (some .long) ∈ TBL := in_3 179 (by decide +kernel) rfl
theorem k_1015 : Cond.methodLink RX11 247 yX2_fits ∈ TBL := in_3 180 (by decide +kernel) rfl
theorem k_1016 : Cond.instanceMethod yX2_fits ∈ TBL := in_3 181 (by decide +kernel) rfl
theorem k_1017 : Cond.selects RX2 yX2_fits yX2_fits ∈ TBL := in_3 182 (by decide +kernel) rfl
theorem k_1018 : Cond.code yX2_fits cX2_fits 3 (some .boolean) ∈ TBL := in_3 183 (by decide +kernel) rfl
theorem k_1019 : Cond.methodLink RX2 66 yX2_spread ∈ TBL := in_3 184 (by decide +kernel) rfl
theorem k_1020 : Cond.methodLink RX2 70 yX2_lay ∈ TBL := in_3 185 (by decide +kernel) rfl
theorem k_1048 : Cond.constantLong RX11 250 (-1000000) ∈ TBL := in_3 213 (by decide +kernel) rfl
theorem k_1049 : Cond.methodLink RX11 256 yX2_lineAt ∈ TBL := in_3 214 (by decide +kernel) rfl
theorem k_1053 : Cond.methodLink RL 113 yX11_lost ∈ TBL := in_3 218 (by decide +kernel) rfl
theorem k_1054 : Cond.instanceMethod yX11_lost ∈ TBL := in_3 219 (by decide +kernel) rfl
theorem k_1055 : Cond.selects RX11 yX11_lost yX11_lost ∈ TBL := in_3 220 (by decide +kernel) rfl
theorem k_1056 : Cond.code yX11_lost cX11_lost 4 (some .int) ∈ TBL := in_3 221 (by decide +kernel) rfl
theorem k_1057 : Cond.methodLink RX11 259 yX2_beyond ∈ TBL := in_3 222 (by decide +kernel) rfl
theorem k_1062 : Cond.methodLink RL 117 yX11_size ∈ TBL := in_3 227 (by decide +kernel) rfl
theorem k_1063 : Cond.instanceMethod yX11_size ∈ TBL := in_3 228 (by decide +kernel) rfl
theorem k_1064 : Cond.selects RX11 yX11_size yX11_size ∈ TBL := in_3 229 (by decide +kernel) rfl
theorem k_1065 : Cond.code yX11_size cX11_size 6 (some .boolean) ∈ TBL := in_3 230 (by decide +kernel) rfl
theorem k_1066 : Cond.methodLink RX11 262 yX5_othersWith ∈ TBL := in_3 231 (by decide +kernel) rfl
theorem k_1070 : Cond.methodLink RL 122 yX11_repairs ∈ TBL := in_3 235 (by decide +kernel) rfl
theorem k_1071 : Cond.instanceMethod yX11_repairs ∈ TBL := in_3 236 (by decide +kernel) rfl
theorem k_1072 : Cond.selects RX11 yX11_repairs yX11_repairs ∈ TBL := in_3 237 (by decide +kernel) rfl
theorem k_1073 : Cond.code yX11_repairs cX11_repairs 4 (some .long) ∈ TBL := in_3 238 (by decide +kernel) rfl
theorem k_1074 : Cond.constantLong RX11 268 (-1) ∈ TBL := in_3 239 (by decide +kernel) rfl
theorem k_1075 : Cond.methodLink RX11 270 yX5_sort ∈ TBL := in_4 0 (by decide +kernel) rfl
theorem k_1091 : Cond.methodLink RX11 279 yX5_waysAsOdd ∈ TBL := in_4 16 (by decide +kernel) rfl
theorem k_1099 : Cond.methodLink RX11 283 yX5_ways ∈ TBL := in_4 24 (by decide +kernel) rfl
theorem k_1103 : Cond.methodLink RX11 286 yX11_reduced ∈ TBL := in_4 28 (by decide +kernel) rfl
theorem k_1109 : Cond.methodLink RL 126 yX11_thole ∈ TBL := in_4 34 (by decide +kernel) rfl
theorem k_1110 : Cond.instanceMethod yX11_thole ∈ TBL := in_4 35 (by decide +kernel) rfl
theorem k_1111 : Cond.selects RX11 yX11_thole yX11_thole ∈ TBL := in_4 36 (by decide +kernel) rfl
theorem k_1112 : Cond.code yX11_thole cX11_thole 4 (some .boolean) ∈ TBL := in_4 37 (by decide +kernel) rfl
theorem k_1113 : Cond.methodLink RX11 290 yX10_tell ∈ TBL := in_4 38 (by decide +kernel) rfl
theorem k_1117 : Cond.methodLink RL 130 yX11_oars ∈ TBL := in_4 42 (by decide +kernel) rfl
theorem k_1118 : Cond.instanceMethod yX11_oars ∈ TBL := in_4 43 (by decide +kernel) rfl
theorem k_1119 : Cond.selects RX11 yX11_oars yX11_oars ∈ TBL := in_4 44 (by decide +kernel) rfl
theorem k_1120 : Cond.code yX11_oars cX11_oars 2 (some .int) ∈ TBL := in_4 45 (by decide +kernel) rfl
theorem k_1121 : Cond.methodLink RX11 293 yX10_pairsSeen ∈ TBL := in_4 46 (by decide +kernel) rfl
theorem k_1134 : Cond.methodLink RX11 296 yX10_pairsThatMayBe ∈ TBL := in_4 59 (by decide +kernel) rfl
theorem k_1138 : Cond.methodLink RX11 299 yX10_known ∈ TBL := in_4 63 (by decide +kernel) rfl
theorem k_1146 : Cond.methodLink RX11 302 yX10_seen ∈ TBL := in_4 71 (by decide +kernel) rfl
theorem k_1150 : Cond.methodLink RL 134 yX11_pair ∈ TBL := in_4 75 (by decide +kernel) rfl
theorem k_1151 : Cond.instanceMethod yX11_pair ∈ TBL := in_4 76 (by decide +kernel) rfl
theorem k_1152 : Cond.selects RX11 yX11_pair yX11_pair ∈ TBL := in_4 77 (by decide +kernel) rfl
theorem k_1153 : Cond.code yX11_pair cX11_pair 7 (some .long) ∈ TBL := in_4 78 (by decide +kernel) rfl
theorem k_1154 : Cond.constantLong RX11 305 (-2) ∈ TBL := in_4 79 (by decide +kernel) rfl
theorem k_1155 : Cond.methodLink RX11 307 yX10_above ∈ TBL := in_4 80 (by decide +kernel) rfl
theorem k_1160 : Cond.methodLink RX11 310 yX10_below ∈ TBL := in_4 85 (by decide +kernel) rfl
theorem k_1165 : Cond.methodLink RL 139 yX11_phosphor ∈ TBL := in_4 90 (by decide +kernel) rfl
theorem k_1166 : Cond.instanceMethod yX11_phosphor ∈ TBL := in_4 91 (by decide +kernel) rfl
theorem k_1167 : Cond.selects RX11 yX11_phosphor yX11_phosphor ∈ TBL := in_4 92 (by decide +kernel) rfl
theorem k_1168 : Cond.code yX11_phosphor cX11_phosphor 4 (some .boolean) ∈ TBL := in_4 93 (by decide +kernel) rfl
theorem k_1169 : Cond.methodLink RX11 313 yX6_put ∈ TBL := in_4 94 (by decide +kernel) rfl
theorem k_1170 : Cond.instanceMethod yX6_put ∈ TBL := in_4 95 (by decide +kernel) rfl
theorem k_1171 : Cond.selects RX6 yX6_put yX6_put ∈ TBL := in_4 96 (by decide +kernel) rfl
theorem k_1172 : Cond.code yX6_put cX6_put 4 none ∈ TBL := in_4 97 (by decide +kernel) rfl
theorem k_1173 : Cond.methodLink RL 143 yX11_body ∈ TBL := in_4 98 (by decide +kernel) rfl
theorem k_1174 : Cond.instanceMethod yX11_body ∈ TBL := in_4 99 (by decide +kernel) rfl
theorem k_1175 : Cond.selects RX11 yX11_body yX11_body ∈ TBL := in_4 100 (by decide +kernel) rfl
theorem k_1176 : Cond.code yX11_body cX11_body 4 (some .int) ∈ TBL := in_4 101 (by decide +kernel) rfl
theorem k_1177 : Cond.methodLink RX11 315 yX6_seek ∈ TBL := in_4 102 (by decide +kernel) rfl
theorem k_1178 : Cond.instanceMethod yX6_seek ∈ TBL := in_4 103 (by decide +kernel) rfl
theorem k_1179 : Cond.selects RX6 yX6_seek yX6_seek ∈ TBL := in_4 104 (by decide +kernel) rfl
theorem k_1180 : Cond.code yX6_seek cX6_seek 5 none ∈ TBL := in_4 105 (by decide +kernel) rfl
theorem k_1181 : Cond.methodLink RX6 23 yX6_amount ∈ TBL := in_4 106 (by decide +kernel) rfl
theorem k_1183 : Cond.instanceMethod yX6_amount ∈ TBL := in_4 108 (by decide +kernel) rfl
theorem k_1184 : Cond.code yX6_amount cX6_amount 8 (some .int) ∈ TBL := in_4 109 (by decide +kernel) rfl
theorem k_1185 : Cond.methodLink RX6 27 yX6_weigh ∈ TBL := in_4 110 (by decide +kernel) rfl
theorem k_1187 : Cond.instanceMethod yX6_weigh ∈ TBL := in_4 112 (by decide +kernel) rfl
theorem k_1188 : Cond.code yX6_weigh cX6_weigh 4 none ∈ TBL := in_4 113 (by decide +kernel) rfl
theorem k_1189 : Cond.methodLink RL 147 yX11_story ∈ TBL := in_4 114 (by decide +kernel) rfl
theorem k_1190 : Cond.instanceMethod yX11_story ∈ TBL := in_4 115 (by decide +kernel) rfl
theorem k_1191 : Cond.selects RX11 yX11_story yX11_story ∈ TBL := in_4 116 (by decide +kernel) rfl
theorem k_1192 : Cond.code yX11_story cX11_story 4 (some .boolean) ∈ TBL := in_4 117 (by decide +kernel) rfl
theorem k_1193 : Cond.methodLink RX11 333 yX7_tell ∈ TBL := in_4 118 (by decide +kernel) rfl
theorem k_1194 : Cond.instanceMethod yX7_tell ∈ TBL := in_4 119 (by decide +kernel) rfl
theorem k_1195 : Cond.selects RX7 yX7_tell yX7_tell ∈ TBL := in_4 120 (by decide +kernel) rfl
theorem k_1196 : Cond.code yX7_tell cX7_tell 4 none ∈ TBL := in_4 121 (by decide +kernel) rfl
theorem k_1197 : Cond.methodLink RL 151 yX11_sign ∈ TBL := in_4 122 (by decide +kernel) rfl
theorem k_1198 : Cond.instanceMethod yX11_sign ∈ TBL := in_4 123 (by decide +kernel) rfl
theorem k_1199 : Cond.selects RX11 yX11_sign yX11_sign ∈ TBL := in_4 124 (by decide +kernel) rfl
theorem k_1200 : Cond.code yX11_sign cX11_sign 3 (some .boolean) ∈ TBL := in_4 125 (by decide +kernel) rfl
theorem k_1201 : Cond.methodLink RL 155 yX11_odds ∈ TBL := in_4 126 (by decide +kernel) rfl
theorem k_1202 : Cond.instanceMethod yX11_odds ∈ TBL := in_4 127 (by decide +kernel) rfl
theorem k_1203 : Cond.selects RX11 yX11_odds yX11_odds ∈ TBL := in_4 128 (by decide +kernel) rfl
theorem k_1204 : Cond.code yX11_odds cX11_odds 2 (some .long) ∈ TBL := in_4 129 (by decide +kernel) rfl
theorem k_1205 : Cond.methodLink RX11 337 yX7_together ∈ TBL := in_4 130 (by decide +kernel) rfl
theorem k_1206 : Cond.instanceMethod yX7_together ∈ TBL := in_4 131 (by decide +kernel) rfl
theorem k_1207 : Cond.selects RX7 yX7_together yX7_together ∈ TBL := in_4 132 (by decide +kernel) rfl
theorem k_1208 : Cond.code yX7_together cX7_together 4 (some .long) ∈ TBL := in_4 133 (by decide +kernel) rfl
theorem k_1209 : Cond.methodLink RX7 22 yX7_product ∈ TBL := in_4 134 (by decide +kernel) rfl
theorem k_1213 : Cond.methodLink RX11 343 yX7_product ∈ TBL := in_4 138 (by decide +kernel) rfl
theorem k_1214 : Cond.methodLink RL 160 yX11_next ∈ TBL := in_4 139 (by decide +kernel) rfl
theorem k_1215 : Cond.instanceMethod yX11_next ∈ TBL := in_4 140 (by decide +kernel) rfl
theorem k_1216 : Cond.selects RX11 yX11_next yX11_next ∈ TBL := in_4 141 (by decide +kernel) rfl
theorem k_1217 : Cond.code yX11_next cX11_next 3 (some .int) ∈ TBL := in_4 142 (by decide +kernel) rfl
theorem k_1218 : Cond.methodLink RX11 347 yX7_told ∈ TBL := in_4 143 (by decide +kernel) rfl
theorem k_1219 : Cond.instanceMethod yX7_told ∈ TBL := in_4 144 (by decide +kernel) rfl
theorem k_1220 : Cond.selects RX7 yX7_told yX7_told ∈ TBL := in_4 145 (by decide +kernel) rfl
theorem k_1221 : Cond.code yX7_told cX7_told 3 (some .int) ∈ TBL := in_4 146 (by decide +kernel) rfl
theorem k_1222 : Cond.methodLink RX11 350 yX7_partingMost ∈ TBL := in_4 147 (by decide +kernel) rfl
theorem k_1235 : Cond.methodLink RX11 353 yX7_parted ∈ TBL := in_4 160 (by decide +kernel) rfl
theorem k_1236 : Cond.methodLink RL 164 yX11_area ∈ TBL := in_4 161 (by decide +kernel) rfl
theorem k_1237 : Cond.instanceMethod yX11_area ∈ TBL := in_4 162 (by decide +kernel) rfl
theorem k_1238 : Cond.selects RX11 yX11_area yX11_area ∈ TBL := in_4 163 (by decide +kernel) rfl
theorem k_1239 : Cond.code yX11_area cX11_area 5 (some .long) ∈ TBL := in_4 164 (by decide +kernel) rfl
theorem k_1240 : Cond.methodLink RX11 356 yX1_isToldUpTo ∈ TBL := in_4 165 (by decide +kernel) rfl
theorem k_1241 : Cond.instanceMethod yX1_isToldUpTo ∈ TBL := in_4 166 (by decide +kernel) rfl
theorem k_1242 : Cond.selects RX1 yX1_isToldUpTo yX1_isToldUpTo ∈ TBL := in_4 167 (by decide +kernel) rfl
theorem k_1243 : Cond.code yX1_isToldUpTo cX1_isToldUpTo 4 (some .boolean) ∈ TBL := in_4 168 (by decide +kernel) rfl
theorem k_1245 : Cond.methodLink RX1 43 yX2_fits ∈ TBL := in_4 170 (by decide +kernel) rfl
theorem k_1246 : Cond.methodLink RX11 359 yX1_section ∈ TBL := in_4 171 (by decide +kernel) rfl
theorem k_1256 : Cond.methodLink RL 169 yX11_volume ∈ TBL := in_4 181 (by decide +kernel) rfl
theorem k_1257 : Cond.instanceMethod yX11_volume ∈ TBL := in_4 182 (by decide +kernel) rfl
theorem k_1258 : Cond.selects RX11 yX11_volume yX11_volume ∈ TBL := in_4 183 (by decide +kernel) rfl
theorem k_1259 : Cond.code yX11_volume cX11_volume 4 (some .long) ∈ TBL := in_4 184 (by decide +kernel) rfl
theorem k_1260 : Cond.methodLink RX11 363 yX1_room ∈ TBL := in_4 185 (by decide +kernel) rfl
theorem k_1266 : Cond.methodLink RL 173 yX11_depth ∈ TBL := in_4 191 (by decide +kernel) rfl
theorem k_1267 : Cond.instanceMethod yX11_depth ∈ TBL := in_4 192 (by decide +kernel) rfl
theorem k_1268 : Cond.selects RX11 yX11_depth yX11_depth ∈ TBL := in_4 193 (by decide +kernel) rfl
theorem k_1269 : Cond.code yX11_depth cX11_depth 4 (some .int) ∈ TBL := in_4 194 (by decide +kernel) rfl
theorem k_1270 : Cond.constant RX11 366 (2000000000) ∈ TBL := in_4 195 (by decide +kernel) rfl
theorem k_1271 : Cond.methodLink RX11 367 yX1_leastLine ∈ TBL := in_4 196 (by decide +kernel) rfl
theorem k_1276 : Cond.methodLink RL 177 yX11_pace ∈ TBL := in_4 201 (by decide +kernel) rfl
theorem k_1277 : Cond.instanceMethod yX11_pace ∈ TBL := in_4 202 (by decide +kernel) rfl
theorem k_1278 : Cond.selects RX11 yX11_pace yX11_pace ∈ TBL := in_4 203 (by decide +kernel) rfl
theorem k_1279 : Cond.code yX11_pace cX11_pace 2 (some .int) ∈ TBL := in_4 204 (by decide +kernel) rfl
theorem k_1280 : Cond.methodLink RX11 370 yX11_root ∈ TBL := in_4 205 (by decide +kernel) rfl
theorem k_1283 : Cond.methodLink RL 181 yX11_length ∈ TBL := in_4 208 (by decide +kernel) rfl
theorem k_1284 : Cond.instanceMethod yX11_length ∈ TBL := in_4 209 (by decide +kernel) rfl
theorem k_1285 : Cond.selects RX11 yX11_length yX11_length ∈ TBL := in_4 210 (by decide +kernel) rfl
theorem k_1286 : Cond.code yX11_length cX11_length 3 (some .int) ∈ TBL := in_4 211 (by decide +kernel) rfl
theorem k_1287 : Cond.methodLink RX11 373 yX1_whole ∈ TBL := in_4 212 (by decide +kernel) rfl
theorem k_1297 : Cond.methodLink RL 185 yX11_joints ∈ TBL := in_4 222 (by decide +kernel) rfl
theorem k_1298 : Cond.instanceMethod yX11_joints ∈ TBL := in_4 223 (by decide +kernel) rfl
theorem k_1299 : Cond.selects RX11 yX11_joints yX11_joints ∈ TBL := in_4 224 (by decide +kernel) rfl
theorem k_1300 : Cond.code yX11_joints cX11_joints 5 (some .int) ∈ TBL := in_4 225 (by decide +kernel) rfl
theorem k_1301 : Cond.constant RX11 376 (100000) ∈ TBL := in_4 226 (by decide +kernel) rfl
theorem k_1302 : Cond.methodLink RX11 377 yX1_layUpTo ∈ TBL := in_4 227 (by decide +kernel) rfl
theorem k_1324 : Cond.methodLink RL 189 yX11_lasts ∈ TBL := in_5 9 (by decide +kernel) rfl
theorem k_1325 : Cond.instanceMethod yX11_lasts ∈ TBL := in_5 10 (by decide +kernel) rfl
theorem k_1326 : Cond.selects RX11 yX11_lasts yX11_lasts ∈ TBL := in_5 11 (by decide +kernel) rfl
theorem k_1327 : Cond.code yX11_lasts cX11_lasts 5 (some .int) ∈ TBL := in_5 12 (by decide +kernel) rfl
theorem k_1328 : Cond.methodLink RX11 386 yX9_value ∈ TBL := in_5 13 (by decide +kernel) rfl
theorem k_1329 : Cond.methodLink RL 193 yX11_check ∈ TBL := in_5 14 (by decide +kernel) rfl
theorem k_1330 : Cond.instanceMethod yX11_check ∈ TBL := in_5 15 (by decide +kernel) rfl
theorem k_1331 : Cond.selects RX11 yX11_check yX11_check ∈ TBL := in_5 16 (by decide +kernel) rfl
theorem k_1332 : Cond.code yX11_check cX11_check 5 (some .int) ∈ TBL := in_5 17 (by decide +kernel) rfl
theorem k_1333 : Cond.methodLink RX11 390 yX11_firstWrong ∈ TBL := in_5 18 (by decide +kernel) rfl
theorem k_1342 : Cond.methodLink RL 197 yX11_count ∈ TBL := in_5 27 (by decide +kernel) rfl
theorem k_1343 : Cond.instanceMethod yX11_count ∈ TBL := in_5 28 (by decide +kernel) rfl
theorem k_1344 : Cond.selects RX11 yX11_count yX11_count ∈ TBL := in_5 29 (by decide +kernel) rfl
theorem k_1345 : Cond.code yX11_count cX11_count 2 (some .int) ∈ TBL := in_5 30 (by decide +kernel) rfl
theorem k_1346 : Cond.classLink RL 10 RX12 ∈ TBL := in_5 31 (by decide +kernel) rfl
theorem k_1347 : Cond.instantiable RX12 81 ∈ TBL := in_5 32 (by decide +kernel) rfl
theorem k_1348 : Cond.methodLink RL 12 yX12_init ∈ TBL := in_5 33 (by decide +kernel) rfl
theorem k_1349 : Cond.instanceMethod yX12_init ∈ TBL := in_5 34 (by decide +kernel) rfl
theorem k_1350 : Cond.code yX12_init cX12_init 2 none ∈ TBL := in_5 35 (by decide +kernel) rfl
theorem k_1351 : Cond.methodLink RX12 1 objectInit ∈ TBL := in_5 36 (by decide +kernel) rfl
theorem k_1352 : Cond.constant RX12 128 (89304) ∈ TBL := in_5 37 (by decide +kernel) rfl
theorem k_1353 : Cond.fieldLink RX12 7 "NailStainModel" "tape" "[B" ∈ TBL := in_5 38 (by decide +kernel) rfl
theorem k_1354 : Cond.fieldLink RX12 162 "NailStainModel" "taped" "I" ∈ TBL := in_5 39 (by decide +kernel) rfl
theorem k_1355 : Cond.fieldLink RX12 338 "NailStainModel" "stations" "I" ∈ TBL := in_5 40 (by decide +kernel) rfl
theorem k_1356 : Cond.fieldLink RX12 341 "NailStainModel" "strakes" "I" ∈ TBL := in_5 41 (by decide +kernel) rfl
theorem k_1357 : Cond.fieldLink RX12 13 "NailStainModel" "pitch" "I" ∈ TBL := in_5 42 (by decide +kernel) rfl
theorem k_1358 : Cond.fieldLink RX12 17 "NailStainModel" "luck" "I" ∈ TBL := in_5 43 (by decide +kernel) rfl
theorem k_1359 : Cond.fieldLink RX12 20 "NailStainModel" "many" "[I" ∈ TBL := in_5 44 (by decide +kernel) rfl
theorem k_1360 : Cond.fieldLink RX12 24 "NailStainModel" "clauseLetter" "[I" ∈ TBL := in_5 45 (by decide +kernel) rfl
theorem k_1361 : Cond.fieldLink RX12 27 "NailStainModel" "sumFrom" "[I" ∈ TBL := in_5 46 (by decide +kernel) rfl
theorem k_1362 : Cond.fieldLink RX12 30 "NailStainModel" "codeFrom" "[I" ∈ TBL := in_5 47 (by decide +kernel) rfl
theorem k_1363 : Cond.fieldLink RX12 33 "NailStainModel" "codeTo" "[I" ∈ TBL := in_5 48 (by decide +kernel) rfl
theorem k_1364 : Cond.fieldLink RX12 36 "NailStainModel" "code" "[I" ∈ TBL := in_5 49 (by decide +kernel) rfl
theorem k_1365 : Cond.fieldLink RX12 39 "NailStainModel" "codeArg" "[I" ∈ TBL := in_5 50 (by decide +kernel) rfl
theorem k_1366 : Cond.fieldLink RX12 42 "NailStainModel" "newLetter" "[I" ∈ TBL := in_5 51 (by decide +kernel) rfl
theorem k_1367 : Cond.fieldLink RX12 45 "NailStainModel" "newSum" "[I" ∈ TBL := in_5 52 (by decide +kernel) rfl
theorem k_1368 : Cond.fieldLink RX12 48 "NailStainModel" "newFrom" "[I" ∈ TBL := in_5 53 (by decide +kernel) rfl
theorem k_1369 : Cond.fieldLink RX12 51 "NailStainModel" "newTo" "[I" ∈ TBL := in_5 54 (by decide +kernel) rfl
theorem k_1370 : Cond.fieldLink RX12 54 "NailStainModel" "newCode" "[I" ∈ TBL := in_5 55 (by decide +kernel) rfl
theorem k_1371 : Cond.fieldLink RX12 57 "NailStainModel" "newArg" "[I" ∈ TBL := in_5 56 (by decide +kernel) rfl
theorem k_1372 : Cond.fieldLink RX12 169 "NailStainModel" "place" "I" ∈ TBL := in_5 57 (by decide +kernel) rfl
theorem k_1373 : Cond.fieldLink RX12 172 "NailStainModel" "end" "I" ∈ TBL := in_5 58 (by decide +kernel) rfl
theorem k_1374 : Cond.fieldLink RX12 175 "NailStainModel" "bad" "I" ∈ TBL := in_5 59 (by decide +kernel) rfl
theorem k_1375 : Cond.fieldLink RX12 270 "NailStainModel" "clauses" "I" ∈ TBL := in_5 60 (by decide +kernel) rfl
theorem k_1376 : Cond.fieldLink RX12 182 "NailStainModel" "codes" "I" ∈ TBL := in_5 61 (by decide +kernel) rfl
theorem k_1381 : Cond.fieldLink RX12 60 "NailStainModel" "stack" "[I" ∈ TBL := in_5 66 (by decide +kernel) rfl
theorem k_1382 : Cond.fieldLink RX12 285 "NailStainModel" "atF" "I" ∈ TBL := in_5 67 (by decide +kernel) rfl
theorem k_1383 : Cond.fieldLink RX12 288 "NailStainModel" "atS" "I" ∈ TBL := in_5 68 (by decide +kernel) rfl
theorem k_1384 : Cond.fieldLink RX12 291 "NailStainModel" "atD" "I" ∈ TBL := in_5 69 (by decide +kernel) rfl
theorem k_1385 : Cond.fieldLink RX12 294 "NailStainModel" "atN" "I" ∈ TBL := in_5 70 (by decide +kernel) rfl
theorem k_1386 : Cond.fieldLink RX12 297 "NailStainModel" "atC" "I" ∈ TBL := in_5 71 (by decide +kernel) rfl
theorem k_1387 : Cond.fieldLink RX12 300 "NailStainModel" "atK" "I" ∈ TBL := in_5 72 (by decide +kernel) rfl
theorem k_1388 : Cond.fieldLink RX12 303 "NailStainModel" "atY" "I" ∈ TBL := in_5 73 (by decide +kernel) rfl
theorem k_1389 : Cond.fieldLink RX12 306 "NailStainModel" "atZ" "I" ∈ TBL := in_5 74 (by decide +kernel) rfl
theorem k_1390 : Cond.fieldLink RX12 309 "NailStainModel" "atM" "I" ∈ TBL := in_5 75 (by decide +kernel) rfl
theorem k_1391 : Cond.fieldLink RX12 312 "NailStainModel" "atX" "I" ∈ TBL := in_5 76 (by decide +kernel) rfl
theorem k_1392 : Cond.fieldLink RX12 315 "NailStainModel" "atT" "I" ∈ TBL := in_5 77 (by decide +kernel) rfl
theorem k_1393 : Cond.fieldLink RX12 318 "NailStainModel" "atV" "I" ∈ TBL := in_5 78 (by decide +kernel) rfl
theorem k_1394 : Cond.fieldLink RX12 321 "NailStainModel" "atW" "I" ∈ TBL := in_5 79 (by decide +kernel) rfl
theorem k_1395 : Cond.fieldLink RX12 63 "NailStainModel" "worth" "[I" ∈ TBL := in_5 80 (by decide +kernel) rfl
theorem k_1396 : Cond.fieldLink RX12 66 "NailStainModel" "isRefused" "[Z" ∈ TBL := in_5 81 (by decide +kernel) rfl
theorem k_1397 : Cond.fieldLink RX12 70 "NailStainModel" "across" "[I" ∈ TBL := in_5 82 (by decide +kernel) rfl
theorem k_1398 : Cond.fieldLink RX12 73 "NailStainModel" "deep" "[I" ∈ TBL := in_5 83 (by decide +kernel) rfl
theorem k_1399 : Cond.fieldLink RX12 76 "NailStainModel" "isGone" "[Z" ∈ TBL := in_5 84 (by decide +kernel) rfl
theorem k_1400 : Cond.fieldLink RX12 79 "NailStainModel" "sizeOf" "[I" ∈ TBL := in_5 85 (by decide +kernel) rfl
theorem k_1401 : Cond.fieldLink RX12 82 "NailStainModel" "mounds" "[I" ∈ TBL := in_5 86 (by decide +kernel) rfl
theorem k_1402 : Cond.fieldLink RX12 353 "NailStainModel" "cutAway" "I" ∈ TBL := in_5 87 (by decide +kernel) rfl
theorem k_1403 : Cond.fieldLink RX12 369 "NailStainModel" "drawings" "I" ∈ TBL := in_5 88 (by decide +kernel) rfl
theorem k_1404 : Cond.fieldLink RX12 85 "NailStainModel" "hasMark" "[Z" ∈ TBL := in_5 89 (by decide +kernel) rfl
theorem k_1405 : Cond.fieldLink RX12 88 "NailStainModel" "markAcross" "[I" ∈ TBL := in_5 90 (by decide +kernel) rfl
theorem k_1406 : Cond.fieldLink RX12 91 "NailStainModel" "markDeep" "[I" ∈ TBL := in_5 91 (by decide +kernel) rfl
theorem k_1407 : Cond.fieldLink RX12 440 "NailStainModel" "bothMany" "I" ∈ TBL := in_5 92 (by decide +kernel) rfl
theorem k_1408 : Cond.fieldLink RX12 450 "NailStainModel" "shiftAcross" "I" ∈ TBL := in_5 93 (by decide +kernel) rfl
theorem k_1409 : Cond.fieldLink RX12 459 "NailStainModel" "shiftDeep" "I" ∈ TBL := in_5 94 (by decide +kernel) rfl
theorem k_1410 : Cond.fieldLink RX12 456 "NailStainModel" "leftAcross" "I" ∈ TBL := in_5 95 (by decide +kernel) rfl
theorem k_1411 : Cond.fieldLink RX12 462 "NailStainModel" "leftDeep" "I" ∈ TBL := in_5 96 (by decide +kernel) rfl
theorem k_1412 : Cond.fieldLink RX12 94 "NailStainModel" "gaps" "[I" ∈ TBL := in_5 97 (by decide +kernel) rfl
theorem k_1413 : Cond.fieldLink RX12 97 "NailStainModel" "lowEnd" "[I" ∈ TBL := in_5 98 (by decide +kernel) rfl
theorem k_1414 : Cond.fieldLink RX12 100 "NailStainModel" "highEnd" "[I" ∈ TBL := in_5 99 (by decide +kernel) rfl
theorem k_1415 : Cond.fieldLink RX12 103 "NailStainModel" "seenLow" "[I" ∈ TBL := in_5 100 (by decide +kernel) rfl
theorem k_1416 : Cond.fieldLink RX12 106 "NailStainModel" "seenHigh" "[I" ∈ TBL := in_5 101 (by decide +kernel) rfl
theorem k_1417 : Cond.fieldLink RX12 109 "NailStainModel" "isThere" "[Z" ∈ TBL := in_5 102 (by decide +kernel) rfl
theorem k_1418 : Cond.fieldLink RX12 112 "NailStainModel" "knownOut" "[I" ∈ TBL := in_5 103 (by decide +kernel) rfl
theorem k_1419 : Cond.fieldLink RX12 115 "NailStainModel" "isKnown" "[Z" ∈ TBL := in_5 104 (by decide +kernel) rfl
theorem k_1420 : Cond.fieldLink RX12 118 "NailStainModel" "isTold" "[Z" ∈ TBL := in_5 105 (by decide +kernel) rfl
theorem k_1421 : Cond.fieldLink RX12 121 "NailStainModel" "batten" "[I" ∈ TBL := in_5 106 (by decide +kernel) rfl
theorem k_1422 : Cond.fieldLink RX12 124 "NailStainModel" "squares" "[J" ∈ TBL := in_5 107 (by decide +kernel) rfl
theorem k_1423 : Cond.fieldLink RX12 129 "NailStainModel" "rest" "[J" ∈ TBL := in_5 108 (by decide +kernel) rfl
theorem k_1424 : Cond.fieldLink RX12 372 "NailStainModel" "sized" "I" ∈ TBL := in_5 109 (by decide +kernel) rfl
theorem k_1425 : Cond.fieldLink RX12 132 "NailStainModel" "often" "[I" ∈ TBL := in_5 110 (by decide +kernel) rfl
theorem k_1426 : Cond.fieldLink RX12 135 "NailStainModel" "tholes" "[I" ∈ TBL := in_5 111 (by decide +kernel) rfl
theorem k_1427 : Cond.fieldLink RX12 138 "NailStainModel" "phosphors" "[I" ∈ TBL := in_5 112 (by decide +kernel) rfl
theorem k_1428 : Cond.fieldLink RX12 141 "NailStainModel" "says" "[I" ∈ TBL := in_5 113 (by decide +kernel) rfl
theorem k_1429 : Cond.fieldLink RX12 144 "NailStainModel" "isStory" "[Z" ∈ TBL := in_5 114 (by decide +kernel) rfl
theorem k_1430 : Cond.fieldLink RX12 147 "NailStainModel" "signSeen" "[I" ∈ TBL := in_5 115 (by decide +kernel) rfl
theorem k_1431 : Cond.fieldLink RX12 589 "NailStainModel" "jointsBelow" "I" ∈ TBL := in_5 116 (by decide +kernel) rfl
theorem k_1432 : Cond.fieldLink RX12 595 "NailStainModel" "jointsLaid" "I" ∈ TBL := in_5 117 (by decide +kernel) rfl
theorem k_1433 : Cond.fieldLink RX12 150 "NailStainModel" "fewest" "[I" ∈ TBL := in_5 118 (by decide +kernel) rfl
theorem k_1597 : Cond.methodLink RL 17 yX12_pitch ∈ TBL := in_6 42 (by decide +kernel) rfl
theorem k_1598 : Cond.instanceMethod yX12_pitch ∈ TBL := in_6 43 (by decide +kernel) rfl
theorem k_1599 : Cond.selects RX12 yX12_pitch yX12_pitch ∈ TBL := in_6 44 (by decide +kernel) rfl
theorem k_1600 : Cond.code yX12_pitch cX12_pitch 2 (some .boolean) ∈ TBL := in_6 45 (by decide +kernel) rfl
theorem k_1601 : Cond.constantLong RX12 153 (1000) ∈ TBL := in_6 46 (by decide +kernel) rfl
theorem k_1602 : Cond.methodLink RX12 155 yX12_isIn ∈ TBL := in_6 47 (by decide +kernel) rfl
theorem k_1603 : Cond.static yX12_isIn ∈ TBL := in_6 48 (by decide +kernel) rfl
theorem k_1604 : Cond.code yX12_isIn cX12_isIn 6 (some .boolean) ∈ TBL := in_6 49 (by decide +kernel) rfl
theorem k_1605 : Cond.methodLink RL 21 yX12_seed ∈ TBL := in_6 50 (by decide +kernel) rfl
theorem k_1606 : Cond.instanceMethod yX12_seed ∈ TBL := in_6 51 (by decide +kernel) rfl
theorem k_1607 : Cond.selects RX12 yX12_seed yX12_seed ∈ TBL := in_6 52 (by decide +kernel) rfl
theorem k_1608 : Cond.code yX12_seed cX12_seed 2 (some .boolean) ∈ TBL := in_6 53 (by decide +kernel) rfl
theorem k_1609 : Cond.constantLong RX12 159 (65535) ∈ TBL := in_6 54 (by decide +kernel) rfl
theorem k_1610 : Cond.methodLink RL 26 yX12_feed ∈ TBL := in_6 55 (by decide +kernel) rfl
theorem k_1611 : Cond.instanceMethod yX12_feed ∈ TBL := in_6 56 (by decide +kernel) rfl
theorem k_1612 : Cond.selects RX12 yX12_feed yX12_feed ∈ TBL := in_6 57 (by decide +kernel) rfl
theorem k_1613 : Cond.code yX12_feed cX12_feed 6 (some .int) ∈ TBL := in_6 58 (by decide +kernel) rfl
theorem k_1614 : Cond.methodLink RX12 165 yX12_push ∈ TBL := in_6 59 (by decide +kernel) rfl
theorem k_1616 : Cond.instanceMethod yX12_push ∈ TBL := in_6 61 (by decide +kernel) rfl
theorem k_1617 : Cond.code yX12_push cX12_push 3 none ∈ TBL := in_6 62 (by decide +kernel) rfl
theorem k_1618 : Cond.methodLink RL 31 yX12_rule ∈ TBL := in_6 63 (by decide +kernel) rfl
theorem k_1619 : Cond.instanceMethod yX12_rule ∈ TBL := in_6 64 (by decide +kernel) rfl
theorem k_1620 : Cond.selects RX12 yX12_rule yX12_rule ∈ TBL := in_6 65 (by decide +kernel) rfl
theorem k_1621 : Cond.code yX12_rule cX12_rule 2 (some .int) ∈ TBL := in_6 66 (by decide +kernel) rfl
theorem k_1622 : Cond.methodLink RX12 281 yX12_readsText ∈ TBL := in_6 67 (by decide +kernel) rfl
theorem k_1624 : Cond.instanceMethod yX12_readsText ∈ TBL := in_6 69 (by decide +kernel) rfl
theorem k_1625 : Cond.code yX12_readsText cX12_readsText 5 (some .int) ∈ TBL := in_6 70 (by decide +kernel) rfl
theorem k_1626 : Cond.constantLong RX12 276 (200) ∈ TBL := in_6 71 (by decide +kernel) rfl
theorem k_1627 : Cond.methodLink RX12 178 yX12_isGood ∈ TBL := in_6 72 (by decide +kernel) rfl
theorem k_1631 : Cond.methodLink RX12 278 yX12_clause ∈ TBL := in_6 76 (by decide +kernel) rfl
theorem k_1635 : Cond.methodLink RX12 195 yX12_here ∈ TBL := in_6 80 (by decide +kernel) rfl
theorem k_1642 : Cond.methodLink RX12 191 yX12_wrongs ∈ TBL := in_6 87 (by decide +kernel) rfl
theorem k_1720 : Cond.methodLink RL 35 yX12_sand ∈ TBL := in_6 165 (by decide +kernel) rfl
theorem k_1721 : Cond.instanceMethod yX12_sand ∈ TBL := in_6 166 (by decide +kernel) rfl
theorem k_1722 : Cond.selects RX12 yX12_sand yX12_sand ∈ TBL := in_6 167 (by decide +kernel) rfl
theorem k_1723 : Cond.code yX12_sand cX12_sand 2 (some .int) ∈ TBL := in_6 168 (by decide +kernel) rfl
theorem k_1724 : Cond.methodLink RL 39 yX12_stain ∈ TBL := in_6 169 (by decide +kernel) rfl
theorem k_1725 : Cond.instanceMethod yX12_stain ∈ TBL := in_6 170 (by decide +kernel) rfl
theorem k_1726 : Cond.selects RX12 yX12_stain yX12_stain ∈ TBL := in_6 171 (by decide +kernel) rfl
theorem k_1727 : Cond.code yX12_stain cX12_stain 2 (some .int) ∈ TBL := in_6 172 (by decide +kernel) rfl
theorem k_1728 : Cond.methodLink RL 44 yX12_build ∈ TBL := in_6 173 (by decide +kernel) rfl
theorem k_1729 : Cond.instanceMethod yX12_build ∈ TBL := in_6 174 (by decide +kernel) rfl
theorem k_1730 : Cond.selects RX12 yX12_build yX12_build ∈ TBL := in_6 175 (by decide +kernel) rfl
theorem k_1731 : Cond.code yX12_build cX12_build 7 (some .int) ∈ TBL := in_6 176 (by decide +kernel) rfl
theorem k_1732 : Cond.constantLong RX12 363 (3) ∈ TBL := in_6 177 (by decide +kernel) rfl
theorem k_1733 : Cond.constantLong RX12 365 (24) ∈ TBL := in_6 178 (by decide +kernel) rfl
theorem k_1734 : Cond.constantLong RX12 367 (8) ∈ TBL := in_6 179 (by decide +kernel) rfl
theorem k_1735 : Cond.methodLink RX12 350 yX12_cellOf ∈ TBL := in_6 180 (by decide +kernel) rfl
theorem k_1736 : Cond.static yX12_cellOf ∈ TBL := in_6 181 (by decide +kernel) rfl
theorem k_1737 : Cond.code yX12_cellOf cX12_cellOf 3 (some .int) ∈ TBL := in_6 182 (by decide +kernel) rfl
theorem k_1738 : Cond.methodLink RX12 375 yX12_stands ∈ TBL := in_6 183 (by decide +kernel) rfl
theorem k_1740 : Cond.instanceMethod yX12_stands ∈ TBL := in_6 185 (by decide +kernel) rfl
theorem k_1741 : Cond.code yX12_stands cX12_stands 4 none ∈ TBL := in_6 186 (by decide +kernel) rfl
theorem k_1742 : Cond.methodLink RX12 360 yX12_clears ∈ TBL := in_6 187 (by decide +kernel) rfl
theorem k_1744 : Cond.instanceMethod yX12_clears ∈ TBL := in_6 189 (by decide +kernel) rfl
theorem k_1745 : Cond.code yX12_clears cX12_clears 1 none ∈ TBL := in_6 190 (by decide +kernel) rfl
theorem k_1746 : Cond.methodLink RX12 379 yX12_tells ∈ TBL := in_6 191 (by decide +kernel) rfl
theorem k_1748 : Cond.instanceMethod yX12_tells ∈ TBL := in_6 193 (by decide +kernel) rfl
theorem k_1749 : Cond.code yX12_tells cX12_tells 7 (some .int) ∈ TBL := in_6 194 (by decide +kernel) rfl
theorem k_1750 : Cond.methodLink RX12 335 yX12_works ∈ TBL := in_6 195 (by decide +kernel) rfl
theorem k_1765 : Cond.methodLink RX12 383 yX12_changes ∈ TBL := in_6 210 (by decide +kernel) rfl
theorem k_1767 : Cond.instanceMethod yX12_changes ∈ TBL := in_6 212 (by decide +kernel) rfl
theorem k_1768 : Cond.code yX12_changes cX12_changes 2 none ∈ TBL := in_6 213 (by decide +kernel) rfl
theorem k_1769 : Cond.methodLink RL 49 yX12_mound ∈ TBL := in_6 214 (by decide +kernel) rfl
theorem k_1770 : Cond.instanceMethod yX12_mound ∈ TBL := in_6 215 (by decide +kernel) rfl
theorem k_1771 : Cond.selects RX12 yX12_mound yX12_mound ∈ TBL := in_6 216 (by decide +kernel) rfl
theorem k_1772 : Cond.code yX12_mound cX12_mound 3 (some .boolean) ∈ TBL := in_6 217 (by decide +kernel) rfl
theorem k_1773 : Cond.constantLong RX12 386 (23) ∈ TBL := in_6 218 (by decide +kernel) rfl
theorem k_1774 : Cond.methodLink RL 53 yX12_bury ∈ TBL := in_6 219 (by decide +kernel) rfl
theorem k_1775 : Cond.instanceMethod yX12_bury ∈ TBL := in_6 220 (by decide +kernel) rfl
theorem k_1776 : Cond.selects RX12 yX12_bury yX12_bury ∈ TBL := in_6 221 (by decide +kernel) rfl
theorem k_1777 : Cond.code yX12_bury cX12_bury 6 (some .int) ∈ TBL := in_6 222 (by decide +kernel) rfl
theorem k_1778 : Cond.constantLong RX12 394 (9) ∈ TBL := in_6 223 (by decide +kernel) rfl
theorem k_1779 : Cond.methodLink RX12 396 yX12_sinks ∈ TBL := in_6 224 (by decide +kernel) rfl
theorem k_1783 : Cond.methodLink RX12 388 yX12_draws ∈ TBL := in_6 228 (by decide +kernel) rfl
theorem k_1791 : Cond.methodLink RX12 399 yX12_left ∈ TBL := in_6 236 (by decide +kernel) rfl
theorem k_1793 : Cond.instanceMethod yX12_left ∈ TBL := in_6 238 (by decide +kernel) rfl
theorem k_1794 : Cond.code yX12_left cX12_left 4 (some .int) ∈ TBL := in_6 239 (by decide +kernel) rfl
theorem k_1795 : Cond.methodLink RL 58 yX12_lies ∈ TBL := in_7 0 (by decide +kernel) rfl
theorem k_1796 : Cond.instanceMethod yX12_lies ∈ TBL := in_7 1 (by decide +kernel) rfl
theorem k_1797 : Cond.selects RX12 yX12_lies yX12_lies ∈ TBL := in_7 2 (by decide +kernel) rfl
theorem k_1798 : Cond.code yX12_lies cX12_lies 6 (some .boolean) ∈ TBL := in_7 3 (by decide +kernel) rfl
theorem k_1799 : Cond.methodLink RX12 402 yX12_isRivet ∈ TBL := in_7 4 (by decide +kernel) rfl
theorem k_1801 : Cond.instanceMethod yX12_isRivet ∈ TBL := in_7 6 (by decide +kernel) rfl
theorem k_1802 : Cond.code yX12_isRivet cX12_isRivet 4 (some .boolean) ∈ TBL := in_7 7 (by decide +kernel) rfl
theorem k_1803 : Cond.methodLink RX12 344 yX12_isStation ∈ TBL := in_7 8 (by decide +kernel) rfl
theorem k_1805 : Cond.instanceMethod yX12_isStation ∈ TBL := in_7 10 (by decide +kernel) rfl
theorem k_1806 : Cond.code yX12_isStation cX12_isStation 2 (some .boolean) ∈ TBL := in_7 11 (by decide +kernel) rfl
theorem k_1807 : Cond.methodLink RX12 347 yX12_isStrake ∈ TBL := in_7 12 (by decide +kernel) rfl
theorem k_1809 : Cond.instanceMethod yX12_isStrake ∈ TBL := in_7 14 (by decide +kernel) rfl
theorem k_1810 : Cond.code yX12_isStrake cX12_isStrake 2 (some .boolean) ∈ TBL := in_7 15 (by decide +kernel) rfl
theorem k_1811 : Cond.constantLong RX12 406 (-3000) ∈ TBL := in_7 16 (by decide +kernel) rfl
theorem k_1812 : Cond.constantLong RX12 408 (3000) ∈ TBL := in_7 17 (by decide +kernel) rfl
theorem k_1813 : Cond.methodLink RL 63 yX12_gone ∈ TBL := in_7 18 (by decide +kernel) rfl
theorem k_1814 : Cond.instanceMethod yX12_gone ∈ TBL := in_7 19 (by decide +kernel) rfl
theorem k_1815 : Cond.selects RX12 yX12_gone yX12_gone ∈ TBL := in_7 20 (by decide +kernel) rfl
theorem k_1816 : Cond.code yX12_gone cX12_gone 4 (some .boolean) ∈ TBL := in_7 21 (by decide +kernel) rfl
theorem k_1817 : Cond.methodLink RL 68 yX12_rivet ∈ TBL := in_7 22 (by decide +kernel) rfl
theorem k_1818 : Cond.instanceMethod yX12_rivet ∈ TBL := in_7 23 (by decide +kernel) rfl
theorem k_1819 : Cond.selects RX12 yX12_rivet yX12_rivet ∈ TBL := in_7 24 (by decide +kernel) rfl
theorem k_1820 : Cond.code yX12_rivet cX12_rivet 6 (some .int) ∈ TBL := in_7 25 (by decide +kernel) rfl
theorem k_1821 : Cond.methodLink RX12 410 yX12_isSeen ∈ TBL := in_7 26 (by decide +kernel) rfl
theorem k_1825 : Cond.methodLink RX12 356 yX12_has ∈ TBL := in_7 30 (by decide +kernel) rfl
theorem k_1828 : Cond.methodLink RL 72 yX12_cut ∈ TBL := in_7 33 (by decide +kernel) rfl
theorem k_1829 : Cond.instanceMethod yX12_cut ∈ TBL := in_7 34 (by decide +kernel) rfl
theorem k_1830 : Cond.selects RX12 yX12_cut yX12_cut ∈ TBL := in_7 35 (by decide +kernel) rfl
theorem k_1831 : Cond.code yX12_cut cX12_cut 2 (some .boolean) ∈ TBL := in_7 36 (by decide +kernel) rfl
theorem k_1832 : Cond.methodLink RL 76 yX12_drawing ∈ TBL := in_7 37 (by decide +kernel) rfl
theorem k_1833 : Cond.instanceMethod yX12_drawing ∈ TBL := in_7 38 (by decide +kernel) rfl
theorem k_1834 : Cond.selects RX12 yX12_drawing yX12_drawing ∈ TBL := in_7 39 (by decide +kernel) rfl
theorem k_1835 : Cond.code yX12_drawing cX12_drawing 3 (some .int) ∈ TBL := in_7 40 (by decide +kernel) rfl
theorem k_1836 : Cond.constantLong RX12 413 (2100) ∈ TBL := in_7 41 (by decide +kernel) rfl
theorem k_1837 : Cond.methodLink RL 81 yX12_mark ∈ TBL := in_7 42 (by decide +kernel) rfl
theorem k_1838 : Cond.instanceMethod yX12_mark ∈ TBL := in_7 43 (by decide +kernel) rfl
theorem k_1839 : Cond.selects RX12 yX12_mark yX12_mark ∈ TBL := in_7 44 (by decide +kernel) rfl
theorem k_1840 : Cond.code yX12_mark cX12_mark 7 (some .boolean) ∈ TBL := in_7 45 (by decide +kernel) rfl
theorem k_1841 : Cond.methodLink RX12 415 yX12_isDrawing ∈ TBL := in_7 46 (by decide +kernel) rfl
theorem k_1843 : Cond.instanceMethod yX12_isDrawing ∈ TBL := in_7 48 (by decide +kernel) rfl
theorem k_1844 : Cond.code yX12_isDrawing cX12_isDrawing 2 (some .boolean) ∈ TBL := in_7 49 (by decide +kernel) rfl
theorem k_1845 : Cond.constantLong RX12 418 (-6000) ∈ TBL := in_7 50 (by decide +kernel) rfl
theorem k_1846 : Cond.constantLong RX12 420 (6000) ∈ TBL := in_7 51 (by decide +kernel) rfl
theorem k_1847 : Cond.methodLink RX12 422 yX12_marks ∈ TBL := in_7 52 (by decide +kernel) rfl
theorem k_1851 : Cond.methodLink RL 85 yX12_draw ∈ TBL := in_7 56 (by decide +kernel) rfl
theorem k_1852 : Cond.instanceMethod yX12_draw ∈ TBL := in_7 57 (by decide +kernel) rfl
theorem k_1853 : Cond.selects RX12 yX12_draw yX12_draw ∈ TBL := in_7 58 (by decide +kernel) rfl
theorem k_1854 : Cond.code yX12_draw cX12_draw 9 (some .int) ∈ TBL := in_7 59 (by decide +kernel) rfl
theorem k_1855 : Cond.constantLong RX12 426 (-2000) ∈ TBL := in_7 60 (by decide +kernel) rfl
theorem k_1856 : Cond.constantLong RX12 428 (2000) ∈ TBL := in_7 61 (by decide +kernel) rfl
theorem k_1857 : Cond.methodLink RX12 430 yX12_marksOf ∈ TBL := in_7 62 (by decide +kernel) rfl
theorem k_1861 : Cond.methodLink RL 89 yX12_marked ∈ TBL := in_7 66 (by decide +kernel) rfl
theorem k_1862 : Cond.instanceMethod yX12_marked ∈ TBL := in_7 67 (by decide +kernel) rfl
theorem k_1863 : Cond.selects RX12 yX12_marked yX12_marked ∈ TBL := in_7 68 (by decide +kernel) rfl
theorem k_1864 : Cond.code yX12_marked cX12_marked 7 (some .int) ∈ TBL := in_7 69 (by decide +kernel) rfl
theorem k_1865 : Cond.methodLink RL 94 yX12_joined ∈ TBL := in_7 70 (by decide +kernel) rfl
theorem k_1866 : Cond.instanceMethod yX12_joined ∈ TBL := in_7 71 (by decide +kernel) rfl
theorem k_1867 : Cond.selects RX12 yX12_joined yX12_joined ∈ TBL := in_7 72 (by decide +kernel) rfl
theorem k_1868 : Cond.code yX12_joined cX12_joined 4 (some .int) ∈ TBL := in_7 73 (by decide +kernel) rfl
theorem k_1869 : Cond.methodLink RX12 465 yX12_areTwo ∈ TBL := in_7 74 (by decide +kernel) rfl
theorem k_1871 : Cond.instanceMethod yX12_areTwo ∈ TBL := in_7 76 (by decide +kernel) rfl
theorem k_1872 : Cond.code yX12_areTwo cX12_areTwo 3 (some .boolean) ∈ TBL := in_7 77 (by decide +kernel) rfl
theorem k_1873 : Cond.constantLong RX12 468 (4) ∈ TBL := in_7 78 (by decide +kernel) rfl
theorem k_1874 : Cond.constant RX12 470 (-1000000) ∈ TBL := in_7 79 (by decide +kernel) rfl
theorem k_1875 : Cond.methodLink RX12 471 yX12_joinsBoth ∈ TBL := in_7 80 (by decide +kernel) rfl
theorem k_1883 : Cond.methodLink RX12 433 yX12_hasBoth ∈ TBL := in_7 88 (by decide +kernel) rfl
theorem k_1887 : Cond.methodLink RX12 436 yX12_gapOf ∈ TBL := in_7 92 (by decide +kernel) rfl
theorem k_1895 : Cond.methodLink RX12 443 yX12_plain ∈ TBL := in_7 100 (by decide +kernel) rfl
theorem k_1898 : Cond.methodLink RL 98 yX12_off ∈ TBL := in_7 103 (by decide +kernel) rfl
theorem k_1899 : Cond.instanceMethod yX12_off ∈ TBL := in_7 104 (by decide +kernel) rfl
theorem k_1900 : Cond.selects RX12 yX12_off yX12_off ∈ TBL := in_7 105 (by decide +kernel) rfl
theorem k_1901 : Cond.code yX12_off cX12_off 6 (some .int) ∈ TBL := in_7 106 (by decide +kernel) rfl
theorem k_1902 : Cond.constantLong RX12 474 (12000) ∈ TBL := in_7 107 (by decide +kernel) rfl
theorem k_1903 : Cond.methodLink RL 103 yX12_slipped ∈ TBL := in_7 108 (by decide +kernel) rfl
theorem k_1904 : Cond.instanceMethod yX12_slipped ∈ TBL := in_7 109 (by decide +kernel) rfl
theorem k_1905 : Cond.selects RX12 yX12_slipped yX12_slipped ∈ TBL := in_7 110 (by decide +kernel) rfl
theorem k_1906 : Cond.code yX12_slipped cX12_slipped 10 (some .int) ∈ TBL := in_7 111 (by decide +kernel) rfl
theorem k_1907 : Cond.methodLink RX12 476 yX12_farFrom ∈ TBL := in_7 112 (by decide +kernel) rfl
theorem k_1911 : Cond.methodLink RL 107 yX12_span ∈ TBL := in_7 116 (by decide +kernel) rfl
theorem k_1912 : Cond.instanceMethod yX12_span ∈ TBL := in_7 117 (by decide +kernel) rfl
theorem k_1913 : Cond.selects RX12 yX12_span yX12_span ∈ TBL := in_7 118 (by decide +kernel) rfl
theorem k_1914 : Cond.code yX12_span cX12_span 5 (some .int) ∈ TBL := in_7 119 (by decide +kernel) rfl
theorem k_1915 : Cond.methodLink RX12 484 yX12_isOut ∈ TBL := in_7 120 (by decide +kernel) rfl
theorem k_1916 : Cond.static yX12_isOut ∈ TBL := in_7 121 (by decide +kernel) rfl
theorem k_1917 : Cond.code yX12_isOut cX12_isOut 1 (some .boolean) ∈ TBL := in_7 122 (by decide +kernel) rfl
theorem k_1918 : Cond.constantLong RX12 482 (40) ∈ TBL := in_7 123 (by decide +kernel) rfl
theorem k_1919 : Cond.methodLink RX12 487 yX12_spans ∈ TBL := in_7 124 (by decide +kernel) rfl
theorem k_1927 : Cond.methodLink RL 112 yX12_batten ∈ TBL := in_7 132 (by decide +kernel) rfl
theorem k_1928 : Cond.instanceMethod yX12_batten ∈ TBL := in_7 133 (by decide +kernel) rfl
theorem k_1929 : Cond.selects RX12 yX12_batten yX12_batten ∈ TBL := in_7 134 (by decide +kernel) rfl
theorem k_1930 : Cond.code yX12_batten cX12_batten 4 (some .long) ∈ TBL := in_7 135 (by decide +kernel) rfl
theorem k_1931 : Cond.methodLink RX12 511 yX12_isBent ∈ TBL := in_7 136 (by decide +kernel) rfl
theorem k_1933 : Cond.instanceMethod yX12_isBent ∈ TBL := in_7 138 (by decide +kernel) rfl
theorem k_1934 : Cond.code yX12_isBent cX12_isBent 3 (some .boolean) ∈ TBL := in_7 139 (by decide +kernel) rfl
theorem k_1935 : Cond.methodLink RX12 508 yX12_bends ∈ TBL := in_7 140 (by decide +kernel) rfl
theorem k_1950 : Cond.constantLong RX12 492 (-1) ∈ TBL := in_7 155 (by decide +kernel) rfl
theorem k_1956 : Cond.constantLong RX12 514 (-1000000) ∈ TBL := in_7 161 (by decide +kernel) rfl
theorem k_1957 : Cond.methodLink RX12 516 yX12_bentAt ∈ TBL := in_7 162 (by decide +kernel) rfl
theorem k_1961 : Cond.methodLink RL 116 yX12_lost ∈ TBL := in_7 166 (by decide +kernel) rfl
theorem k_1962 : Cond.instanceMethod yX12_lost ∈ TBL := in_7 167 (by decide +kernel) rfl
theorem k_1963 : Cond.selects RX12 yX12_lost yX12_lost ∈ TBL := in_7 168 (by decide +kernel) rfl
theorem k_1964 : Cond.code yX12_lost cX12_lost 7 (some .int) ∈ TBL := in_7 169 (by decide +kernel) rfl
theorem k_1965 : Cond.methodLink RL 121 yX12_size ∈ TBL := in_7 170 (by decide +kernel) rfl
theorem k_1966 : Cond.instanceMethod yX12_size ∈ TBL := in_7 171 (by decide +kernel) rfl
theorem k_1967 : Cond.selects RX12 yX12_size yX12_size ∈ TBL := in_7 172 (by decide +kernel) rfl
theorem k_1968 : Cond.code yX12_size cX12_size 7 (some .boolean) ∈ TBL := in_7 173 (by decide +kernel) rfl
theorem k_1969 : Cond.constantLong RX12 519 (99) ∈ TBL := in_7 174 (by decide +kernel) rfl
theorem k_1970 : Cond.methodLink RL 125 yX12_repairs ∈ TBL := in_7 175 (by decide +kernel) rfl
theorem k_1971 : Cond.instanceMethod yX12_repairs ∈ TBL := in_7 176 (by decide +kernel) rfl
theorem k_1972 : Cond.selects RX12 yX12_repairs yX12_repairs ∈ TBL := in_7 177 (by decide +kernel) rfl
theorem k_1973 : Cond.code yX12_repairs cX12_repairs 14 (some .long) ∈ TBL := in_7 178 (by decide +kernel) rfl
theorem k_1974 : Cond.methodLink RX12 521 yX12_commonSize ∈ TBL := in_7 179 (by decide +kernel) rfl
theorem k_1978 : Cond.methodLink RX12 524 yX12_choices ∈ TBL := in_7 183 (by decide +kernel) rfl
theorem k_1981 : Cond.methodLink RX12 528 yX12_divisor ∈ TBL := in_7 186 (by decide +kernel) rfl
theorem k_1984 : Cond.methodLink RL 129 yX12_thole ∈ TBL := in_7 189 (by decide +kernel) rfl
theorem k_1985 : Cond.instanceMethod yX12_thole ∈ TBL := in_7 190 (by decide +kernel) rfl
theorem k_1986 : Cond.selects RX12 yX12_thole yX12_thole ∈ TBL := in_7 191 (by decide +kernel) rfl
theorem k_1987 : Cond.code yX12_thole cX12_thole 4 (some .boolean) ∈ TBL := in_7 192 (by decide +kernel) rfl
theorem k_1988 : Cond.methodLink RL 133 yX12_oars ∈ TBL := in_7 193 (by decide +kernel) rfl
theorem k_1989 : Cond.instanceMethod yX12_oars ∈ TBL := in_7 194 (by decide +kernel) rfl
theorem k_1990 : Cond.selects RX12 yX12_oars yX12_oars ∈ TBL := in_7 195 (by decide +kernel) rfl
theorem k_1991 : Cond.code yX12_oars cX12_oars 5 (some .int) ∈ TBL := in_7 196 (by decide +kernel) rfl
theorem k_1992 : Cond.methodLink RX12 532 yX12_tholeOf ∈ TBL := in_7 197 (by decide +kernel) rfl
theorem k_1996 : Cond.methodLink RX12 535 yX12_tholesThat ∈ TBL := in_7 201 (by decide +kernel) rfl
theorem k_2000 : Cond.methodLink RL 138 yX12_pair ∈ TBL := in_7 205 (by decide +kernel) rfl
theorem k_2001 : Cond.instanceMethod yX12_pair ∈ TBL := in_7 206 (by decide +kernel) rfl
theorem k_2002 : Cond.selects RX12 yX12_pair yX12_pair ∈ TBL := in_7 207 (by decide +kernel) rfl
theorem k_2003 : Cond.code yX12_pair cX12_pair 11 (some .long) ∈ TBL := in_7 208 (by decide +kernel) rfl
theorem k_2004 : Cond.constantLong RX12 538 (-2) ∈ TBL := in_7 209 (by decide +kernel) rfl
theorem k_2005 : Cond.methodLink RL 142 yX12_phosphor ∈ TBL := in_7 210 (by decide +kernel) rfl
theorem k_2006 : Cond.instanceMethod yX12_phosphor ∈ TBL := in_7 211 (by decide +kernel) rfl
theorem k_2007 : Cond.selects RX12 yX12_phosphor yX12_phosphor ∈ TBL := in_7 212 (by decide +kernel) rfl
theorem k_2008 : Cond.code yX12_phosphor cX12_phosphor 4 (some .boolean) ∈ TBL := in_7 213 (by decide +kernel) rfl
theorem k_2009 : Cond.constantLong RX12 540 (11) ∈ TBL := in_7 214 (by decide +kernel) rfl
theorem k_2010 : Cond.constantLong RX12 542 (5) ∈ TBL := in_7 215 (by decide +kernel) rfl
theorem k_2011 : Cond.constantLong RX12 544 (999) ∈ TBL := in_7 216 (by decide +kernel) rfl
theorem k_2012 : Cond.methodLink RL 146 yX12_body ∈ TBL := in_7 217 (by decide +kernel) rfl
theorem k_2013 : Cond.instanceMethod yX12_body ∈ TBL := in_7 218 (by decide +kernel) rfl
theorem k_2014 : Cond.selects RX12 yX12_body yX12_body ∈ TBL := in_7 219 (by decide +kernel) rfl
theorem k_2015 : Cond.code yX12_body cX12_body 11 (some .int) ∈ TBL := in_7 220 (by decide +kernel) rfl
theorem k_2016 : Cond.constantLong RX12 546 (12) ∈ TBL := in_7 221 (by decide +kernel) rfl
theorem k_2017 : Cond.constantLong RX12 548 (6) ∈ TBL := in_7 222 (by decide +kernel) rfl
theorem k_2018 : Cond.methodLink RX12 550 yX12_muchAt ∈ TBL := in_7 223 (by decide +kernel) rfl
theorem k_2020 : Cond.instanceMethod yX12_muchAt ∈ TBL := in_7 225 (by decide +kernel) rfl
theorem k_2021 : Cond.code yX12_muchAt cX12_muchAt 8 (some .int) ∈ TBL := in_7 226 (by decide +kernel) rfl
theorem k_2022 : Cond.methodLink RL 150 yX12_story ∈ TBL := in_7 227 (by decide +kernel) rfl
theorem k_2023 : Cond.instanceMethod yX12_story ∈ TBL := in_7 228 (by decide +kernel) rfl
theorem k_2024 : Cond.selects RX12 yX12_story yX12_story ∈ TBL := in_7 229 (by decide +kernel) rfl
theorem k_2025 : Cond.code yX12_story cX12_story 4 (some .boolean) ∈ TBL := in_7 230 (by decide +kernel) rfl
theorem k_2026 : Cond.methodLink RL 154 yX12_sign ∈ TBL := in_7 231 (by decide +kernel) rfl
theorem k_2027 : Cond.instanceMethod yX12_sign ∈ TBL := in_7 232 (by decide +kernel) rfl
theorem k_2028 : Cond.selects RX12 yX12_sign yX12_sign ∈ TBL := in_7 233 (by decide +kernel) rfl
theorem k_2029 : Cond.code yX12_sign cX12_sign 3 (some .boolean) ∈ TBL := in_7 234 (by decide +kernel) rfl
theorem k_2030 : Cond.methodLink RL 159 yX12_odds ∈ TBL := in_7 235 (by decide +kernel) rfl
theorem k_2031 : Cond.instanceMethod yX12_odds ∈ TBL := in_7 236 (by decide +kernel) rfl
theorem k_2032 : Cond.selects RX12 yX12_odds yX12_odds ∈ TBL := in_7 237 (by decide +kernel) rfl
theorem k_2033 : Cond.code yX12_odds cX12_odds 5 (some .long) ∈ TBL := in_7 238 (by decide +kernel) rfl
theorem k_2034 : Cond.methodLink RX12 553 yX12_oddsOf ∈ TBL := in_7 239 (by decide +kernel) rfl
theorem k_2038 : Cond.methodLink RL 163 yX12_next ∈ TBL := in_8 3 (by decide +kernel) rfl
theorem k_2039 : Cond.instanceMethod yX12_next ∈ TBL := in_8 4 (by decide +kernel) rfl
theorem k_2040 : Cond.selects RX12 yX12_next yX12_next ∈ TBL := in_8 5 (by decide +kernel) rfl
theorem k_2041 : Cond.code yX12_next cX12_next 8 (some .int) ∈ TBL := in_8 6 (by decide +kernel) rfl
theorem k_2042 : Cond.methodLink RX12 557 yX12_storiesTold ∈ TBL := in_8 7 (by decide +kernel) rfl
theorem k_2044 : Cond.instanceMethod yX12_storiesTold ∈ TBL := in_8 9 (by decide +kernel) rfl
theorem k_2045 : Cond.code yX12_storiesTold cX12_storiesTold 3 (some .int) ∈ TBL := in_8 10 (by decide +kernel) rfl
theorem k_2046 : Cond.methodLink RX12 560 yX12_canBe ∈ TBL := in_8 11 (by decide +kernel) rfl
theorem k_2050 : Cond.methodLink RL 168 yX12_area ∈ TBL := in_8 15 (by decide +kernel) rfl
theorem k_2051 : Cond.instanceMethod yX12_area ∈ TBL := in_8 16 (by decide +kernel) rfl
theorem k_2052 : Cond.selects RX12 yX12_area yX12_area ∈ TBL := in_8 17 (by decide +kernel) rfl
theorem k_2053 : Cond.code yX12_area cX12_area 5 (some .long) ∈ TBL := in_8 18 (by decide +kernel) rfl
theorem k_2054 : Cond.methodLink RX12 563 yX12_isHeight ∈ TBL := in_8 19 (by decide +kernel) rfl
theorem k_2055 : Cond.static yX12_isHeight ∈ TBL := in_8 20 (by decide +kernel) rfl
theorem k_2056 : Cond.code yX12_isHeight cX12_isHeight 1 (some .boolean) ∈ TBL := in_8 21 (by decide +kernel) rfl
theorem k_2057 : Cond.methodLink RX12 566 yX12_areBent ∈ TBL := in_8 22 (by decide +kernel) rfl
theorem k_2059 : Cond.instanceMethod yX12_areBent ∈ TBL := in_8 24 (by decide +kernel) rfl
theorem k_2060 : Cond.code yX12_areBent cX12_areBent 4 (some .boolean) ∈ TBL := in_8 25 (by decide +kernel) rfl
theorem k_2061 : Cond.methodLink RX12 569 yX12_areaOf ∈ TBL := in_8 26 (by decide +kernel) rfl
theorem k_2065 : Cond.methodLink RL 172 yX12_volume ∈ TBL := in_8 30 (by decide +kernel) rfl
theorem k_2066 : Cond.instanceMethod yX12_volume ∈ TBL := in_8 31 (by decide +kernel) rfl
theorem k_2067 : Cond.selects RX12 yX12_volume yX12_volume ∈ TBL := in_8 32 (by decide +kernel) rfl
theorem k_2068 : Cond.code yX12_volume cX12_volume 4 (some .long) ∈ TBL := in_8 33 (by decide +kernel) rfl
theorem k_2069 : Cond.methodLink RX12 572 yX12_volumeOf ∈ TBL := in_8 34 (by decide +kernel) rfl
theorem k_2073 : Cond.methodLink RL 176 yX12_depth ∈ TBL := in_8 38 (by decide +kernel) rfl
theorem k_2074 : Cond.instanceMethod yX12_depth ∈ TBL := in_8 39 (by decide +kernel) rfl
theorem k_2075 : Cond.selects RX12 yX12_depth yX12_depth ∈ TBL := in_8 40 (by decide +kernel) rfl
theorem k_2076 : Cond.code yX12_depth cX12_depth 5 (some .int) ∈ TBL := in_8 41 (by decide +kernel) rfl
theorem k_2077 : Cond.constantLong RX12 575 (2000000000) ∈ TBL := in_8 42 (by decide +kernel) rfl
theorem k_2078 : Cond.methodLink RL 180 yX12_pace ∈ TBL := in_8 43 (by decide +kernel) rfl
theorem k_2079 : Cond.instanceMethod yX12_pace ∈ TBL := in_8 44 (by decide +kernel) rfl
theorem k_2080 : Cond.selects RX12 yX12_pace yX12_pace ∈ TBL := in_8 45 (by decide +kernel) rfl
theorem k_2081 : Cond.code yX12_pace cX12_pace 2 (some .int) ∈ TBL := in_8 46 (by decide +kernel) rfl
theorem k_2082 : Cond.methodLink RX12 579 yX12_rootOf ∈ TBL := in_8 47 (by decide +kernel) rfl
theorem k_2086 : Cond.methodLink RL 184 yX12_length ∈ TBL := in_8 51 (by decide +kernel) rfl
theorem k_2087 : Cond.instanceMethod yX12_length ∈ TBL := in_8 52 (by decide +kernel) rfl
theorem k_2088 : Cond.selects RX12 yX12_length yX12_length ∈ TBL := in_8 53 (by decide +kernel) rfl
theorem k_2089 : Cond.code yX12_length cX12_length 3 (some .int) ∈ TBL := in_8 54 (by decide +kernel) rfl
theorem k_2090 : Cond.methodLink RX12 586 yX12_lengthOf ∈ TBL := in_8 55 (by decide +kernel) rfl
theorem k_2098 : Cond.methodLink RL 188 yX12_joints ∈ TBL := in_8 63 (by decide +kernel) rfl
theorem k_2099 : Cond.instanceMethod yX12_joints ∈ TBL := in_8 64 (by decide +kernel) rfl
theorem k_2100 : Cond.selects RX12 yX12_joints yX12_joints ∈ TBL := in_8 65 (by decide +kernel) rfl
theorem k_2101 : Cond.code yX12_joints cX12_joints 7 (some .int) ∈ TBL := in_8 66 (by decide +kernel) rfl
theorem k_2102 : Cond.constantLong RX12 598 (100000) ∈ TBL := in_8 67 (by decide +kernel) rfl
theorem k_2103 : Cond.methodLink RX12 600 yX12_laysPlanks ∈ TBL := in_8 68 (by decide +kernel) rfl
theorem k_2111 : Cond.methodLink RL 192 yX12_lasts ∈ TBL := in_8 76 (by decide +kernel) rfl
theorem k_2112 : Cond.instanceMethod yX12_lasts ∈ TBL := in_8 77 (by decide +kernel) rfl
theorem k_2113 : Cond.selects RX12 yX12_lasts yX12_lasts ∈ TBL := in_8 78 (by decide +kernel) rfl
theorem k_2114 : Cond.code yX12_lasts cX12_lasts 5 (some .int) ∈ TBL := in_8 79 (by decide +kernel) rfl
theorem k_2115 : Cond.constantLong RX12 603 (10000) ∈ TBL := in_8 80 (by decide +kernel) rfl
theorem k_2116 : Cond.constantLong RX12 605 (100) ∈ TBL := in_8 81 (by decide +kernel) rfl
theorem k_2117 : Cond.methodLink RL 196 yX12_check ∈ TBL := in_8 82 (by decide +kernel) rfl
theorem k_2118 : Cond.instanceMethod yX12_check ∈ TBL := in_8 83 (by decide +kernel) rfl
theorem k_2119 : Cond.selects RX12 yX12_check yX12_check ∈ TBL := in_8 84 (by decide +kernel) rfl
theorem k_2120 : Cond.code yX12_check cX12_check 5 (some .int) ∈ TBL := in_8 85 (by decide +kernel) rfl
theorem k_2121 : Cond.methodLink RX12 607 yX12_numberAt ∈ TBL := in_8 86 (by decide +kernel) rfl
theorem k_2125 : Cond.methodLink RL 200 yX12_count ∈ TBL := in_8 90 (by decide +kernel) rfl
theorem k_2126 : Cond.instanceMethod yX12_count ∈ TBL := in_8 91 (by decide +kernel) rfl
theorem k_2127 : Cond.selects RX12 yX12_count yX12_count ∈ TBL := in_8 92 (by decide +kernel) rfl
theorem k_2128 : Cond.code yX12_count cX12_count 2 (some .int) ∈ TBL := in_8 93 (by decide +kernel) rfl
theorem n_146 : Cond.methodLinkNest RX11 9 yX8_init "NailStain" ∈ NWs := im_0 31 (by decide +kernel) rfl
theorem n_152 : Cond.fieldLinkNest RX11 116 "NailStain$Tape" "used" "I" "NailStain" ∈ NWs := im_0 37 (by decide +kernel) rfl
theorem n_190 : Cond.methodLinkNest RX11 27 yX9_init "NailStain" ∈ NWs := im_0 75 (by decide +kernel) rfl
theorem n_202 : Cond.fieldLinkNest RX11 396 "NailStain$Text" "clauses" "I" "NailStain" ∈ NWs := im_0 87 (by decide +kernel) rfl
theorem n_227 : Cond.methodLinkNest RX11 38 yX4_init "NailStain" ∈ NWs := im_0 112 (by decide +kernel) rfl
theorem n_234 : Cond.fieldLinkNest RX11 175 "NailStain$Ship" "across" "[I" "NailStain" ∈ NWs := im_0 119 (by decide +kernel) rfl
theorem n_237 : Cond.fieldLinkNest RX11 178 "NailStain$Ship" "deep" "[I" "NailStain" ∈ NWs := im_0 122 (by decide +kernel) rfl
theorem n_240 : Cond.fieldLinkNest RX11 181 "NailStain$Ship" "sizeOf" "[I" "NailStain" ∈ NWs := im_0 125 (by decide +kernel) rfl
theorem n_242 : Cond.fieldLinkNest RX11 167 "NailStain$Ship" "isGone" "[Z" "NailStain" ∈ NWs := im_0 127 (by decide +kernel) rfl
theorem n_244 : Cond.fieldLinkNest RX11 144 "NailStain$Ship" "mounds" "[I" "NailStain" ∈ NWs := im_0 129 (by decide +kernel) rfl
theorem n_246 : Cond.fieldLinkNest RX2 63 "NailStain$Ship" "changes" "[I" "NailStain" ∈ NWs := im_0 131 (by decide +kernel) rfl
theorem n_254 : Cond.fieldLinkNest RX11 235 "NailStain$Ship" "stations" "I" "NailStain" ∈ NWs := im_0 139 (by decide +kernel) rfl
theorem n_255 : Cond.fieldLinkNest RX1 33 "NailStain$Ship" "strakes" "I" "NailStain" ∈ NWs := im_0 140 (by decide +kernel) rfl
theorem n_256 : Cond.fieldLinkNest RX2 53 "NailStain$Ship" "strakes" "I" "NailStain" ∈ NWs := im_0 141 (by decide +kernel) rfl
theorem n_260 : Cond.fieldLinkNest RX11 265 "NailStain$Ship" "strakes" "I" "NailStain" ∈ NWs := im_0 145 (by decide +kernel) rfl
theorem n_263 : Cond.fieldLinkNest RX11 105 "NailStain$Ship" "chance" "I" "NailStain" ∈ NWs := im_0 148 (by decide +kernel) rfl
theorem n_301 : Cond.fieldLinkNest RX11 399 "NailStain$Drawings" "made" "I" "NailStain" ∈ NWs := im_0 186 (by decide +kernel) rfl
theorem n_326 : Cond.fieldLinkNest RX11 241 "NailStain$Lines" "low" "[I" "NailStain" ∈ NWs := im_0 211 (by decide +kernel) rfl
theorem n_328 : Cond.fieldLinkNest RX11 244 "NailStain$Lines" "high" "[I" "NailStain" ∈ NWs := im_0 213 (by decide +kernel) rfl
theorem n_332 : Cond.fieldLinkNest RX11 252 "NailStain$Lines" "squares" "[J" "NailStain" ∈ NWs := im_0 217 (by decide +kernel) rfl
theorem n_377 : Cond.fieldLinkNest RX11 383 "NailStain$Hull" "meetingAt" "[I" "NailStain" ∈ NWs := im_1 22 (by decide +kernel) rfl
theorem n_379 : Cond.fieldLinkNest RX11 380 "NailStain$Hull" "meetings" "I" "NailStain" ∈ NWs := im_1 24 (by decide +kernel) rfl
theorem n_406 : Cond.fieldLinkNest RX11 276 "NailStain$Sizes" "sizedHere" "I" "NailStain" ∈ NWs := im_1 51 (by decide +kernel) rfl
theorem n_408 : Cond.fieldLinkNest RX11 273 "NailStain$Sizes" "oddHere" "I" "NailStain" ∈ NWs := im_1 53 (by decide +kernel) rfl
theorem n_437 : Cond.methodLinkNest RX11 84 yX6_init "NailStain" ∈ NWs := im_1 82 (by decide +kernel) rfl
theorem n_443 : Cond.fieldLinkNest RX11 318 "NailStain$Soil" "bestColumn" "I" "NailStain" ∈ NWs := im_1 88 (by decide +kernel) rfl
theorem n_445 : Cond.fieldLinkNest RX11 321 "NailStain$Soil" "bestRow" "I" "NailStain" ∈ NWs := im_1 90 (by decide +kernel) rfl
theorem n_447 : Cond.fieldLinkNest RX11 324 "NailStain$Soil" "most" "I" "NailStain" ∈ NWs := im_1 92 (by decide +kernel) rfl
theorem n_449 : Cond.fieldLinkNest RX11 327 "NailStain$Soil" "rank" "I" "NailStain" ∈ NWs := im_1 94 (by decide +kernel) rfl
theorem n_451 : Cond.fieldLinkNest RX11 330 "NailStain$Soil" "places" "I" "NailStain" ∈ NWs := im_1 96 (by decide +kernel) rfl
theorem n_467 : Cond.methodLinkNest RX11 91 yX7_init "NailStain" ∈ NWs := im_1 112 (by decide +kernel) rfl
theorem n_473 : Cond.fieldLinkNest RX11 340 "NailStain$Stories" "isTold" "[Z" "NailStain" ∈ NWs := im_1 118 (by decide +kernel) rfl
theorem n_475 : Cond.fieldLinkNest RX11 334 "NailStain$Stories" "signs" "[I" "NailStain" ∈ NWs := im_1 120 (by decide +kernel) rfl
theorem n_777 : Cond.methodLinkNest RX4 41 yX11_within "NailStain" ∈ NWs := im_2 182 (by decide +kernel) rfl
theorem n_807 : Cond.methodLinkNest RX9 38 yX11_held "NailStain" ∈ NWs := im_2 212 (by decide +kernel) rfl
theorem n_903 : Cond.methodLinkNest RX0 36 yX11_within "NailStain" ∈ NWs := im_3 68 (by decide +kernel) rfl
theorem n_998 : Cond.methodLinkNest RX2 59 yX11_within "NailStain" ∈ NWs := im_3 163 (by decide +kernel) rfl
theorem n_1244 : Cond.methodLinkNest RX1 39 yX11_within "NailStain" ∈ NWs := im_4 169 (by decide +kernel) rfl
end
section
theorem inT_of (ws : List Cond) (ps : List Nat) (hp : ws = ps.filterMap (fun i => lw_tbl[i]?)) (h : ws.all goodWord = true) : ∀ w ∈ ws, w ∈ TBL := by
  intro w hw
  have h1 := List.all_eq_true.mp h w hw
  rw [hp] at hw
  obtain ⟨i, -, hi⟩ := List.mem_filterMap.mp hw
  exact List.mem_filter.mpr ⟨List.mem_of_getElem? hi, h1⟩
theorem inT_X0 : ∀ w ∈ wsX00, w ∈ TBL := inT_of _ [302, 304, 306, 308, 310, 312, 314] (by decide +kernel) (by decide +kernel)
theorem inT_X1 : ∀ w ∈ wsX10, w ∈ TBL := inT_of _ [380, 382, 384, 386, 388, 390, 392] (by decide +kernel) (by decide +kernel)
theorem inT_X2 : ∀ w ∈ wsX20, w ∈ TBL := inT_of _ [339, 341, 343, 345, 347, 349, 351, 353, 355, 357, 359, 361] (by decide +kernel) (by decide +kernel)
theorem inT_X3 : ∀ w ∈ wsX30, w ∈ TBL := inT_of _ [172, 174, 176, 178, 180, 182, 184] (by decide +kernel) (by decide +kernel)
theorem inT_X4 : ∀ w ∈ wsX40, w ∈ TBL := inT_of _ [264, 266, 268, 270, 272, 274, 276, 278, 280, 282, 284] (by decide +kernel) (by decide +kernel)
theorem inT_X5 : ∀ w ∈ wsX50, w ∈ TBL := inT_of _ [409, 411, 413, 415, 417, 419] (by decide +kernel) (by decide +kernel)
theorem inT_X6 : ∀ w ∈ wsX60, w ∈ TBL := inT_of _ [452, 454, 456, 458, 460, 462] (by decide +kernel) (by decide +kernel)
theorem inT_X7 : ∀ w ∈ wsX70, w ∈ TBL := inT_of _ [476, 478, 480] (by decide +kernel) (by decide +kernel)
theorem inT_X8 : ∀ w ∈ wsX80, w ∈ TBL := inT_of _ [153, 155] (by decide +kernel) (by decide +kernel)
theorem inT_X9 : ∀ w ∈ wsX90, w ∈ TBL := inT_of _ [205, 207, 209, 211, 213, 215, 217, 219, 221] (by decide +kernel) (by decide +kernel)
theorem inT_X10 : ∀ w ∈ wsX100, w ∈ TBL := inT_of _ [430, 432] (by decide +kernel) (by decide +kernel)
theorem inT_X11 : ∀ w ∈ wsX110, w ∈ TBL := inT_of _ [496, 498, 500, 502, 504, 506, 508, 510, 512, 514, 516, 518, 520] (by decide +kernel) (by decide +kernel)
theorem inT_X12 : ∀ w ∈ wsX120, w ∈ TBL := inT_of _ [1434, 1436, 1438, 1440, 1442, 1444, 1446, 1448, 1450, 1452, 1454, 1456, 1458, 1460, 1462, 1464, 1466, 1468, 1470, 1472, 1474, 1476, 1478, 1480, 1482, 1484, 1486, 1488, 1490, 1492, 1494, 1496, 1498, 1500, 1502, 1504, 1506, 1508, 1510, 1512, 1514, 1516, 1518, 1520, 1522, 1524, 1526, 1528, 1530, 1532, 1534, 1536, 1538, 1540, 1542, 1544, 1546, 1548, 1550, 1552, 1554, 1556, 1558, 1560, 1562, 1564, 1566, 1568, 1570, 1572, 1574, 1576, 1578, 1580, 1582, 1584, 1586, 1588, 1590, 1592, 1594] (by decide +kernel) (by decide +kernel)
theorem v_X0_init : mI yX0_init cX0_init 2 1 := ⟨⟨k_291, k_121, k_292⟩, by decide +kernel, by decide +kernel, by decide +kernel⟩
theorem v_X0_fall : mV yX0_fall cX0_fall 1 none 0 := ⟨⟨k_754, k_755, k_121, k_756⟩, by decide +kernel, by decide +kernel, by decide +kernel⟩
theorem v_X0_has : mV yX0_has cX0_has 2 (some .boolean) 1 := ⟨⟨k_900, k_901, k_121, k_902⟩, by decide +kernel, by decide +kernel, by decide +kernel⟩
theorem v_X0_areTwo : mV yX0_areTwo cX0_areTwo 3 (some .boolean) 2 := ⟨⟨k_943, k_944, k_121, k_945⟩, by decide +kernel, by decide +kernel, by decide +kernel⟩
theorem v_X1_init : mI yX1_init cX1_init 3 2 := ⟨⟨k_368, k_123, k_369⟩, by decide +kernel, by decide +kernel, by decide +kernel⟩
theorem v_X1_isToldUpTo : mV yX1_isToldUpTo cX1_isToldUpTo 4 (some .boolean) 2 := ⟨⟨k_1241, k_1242, k_123, k_1243⟩, by decide +kernel, by decide +kernel, by decide +kernel⟩
theorem v_X2_init : mI yX2_init cX2_init 2 1 := ⟨⟨k_320, k_122, k_321⟩, by decide +kernel, by decide +kernel, by decide +kernel⟩
theorem v_X2_fits : mV yX2_fits cX2_fits 3 (some .boolean) 2 := ⟨⟨k_1016, k_1017, k_122, k_1018⟩, by decide +kernel, by decide +kernel, by decide +kernel⟩
theorem v_X3_init : mI yX3_init cX3_init 2 1 := ⟨⟨k_162, k_118, k_163⟩, by decide +kernel, by decide +kernel, by decide +kernel⟩
theorem v_X4_init : mI yX4_init cX4_init 1 0 := ⟨⟨k_228, k_120, k_229⟩, by decide +kernel, by decide +kernel, by decide +kernel⟩
theorem v_X4_stands : mV yX4_stands cX4_stands 1 (some .boolean) 0 := ⟨⟨k_825, k_826, k_120, k_827⟩, by decide +kernel, by decide +kernel, by decide +kernel⟩
theorem v_X4_rivetAt : mV yX4_rivetAt cX4_rivetAt 4 (some .int) 3 := ⟨⟨k_774, k_775, k_120, k_776⟩, by decide +kernel, by decide +kernel, by decide +kernel⟩
theorem v_X4_allStations : mV yX4_allStations cX4_allStations 1 (some .int) 0 := ⟨⟨k_880, k_881, k_120, k_882⟩, by decide +kernel, by decide +kernel, by decide +kernel⟩
theorem v_X4_raise : mV yX4_raise cX4_raise 7 (some .int) 3 := ⟨⟨k_765, k_766, k_120, k_767⟩, by decide +kernel, by decide +kernel, by decide +kernel⟩
theorem v_X4_set : mV yX4_set cX4_set 6 none 4 := ⟨⟨k_771, k_14, k_120, k_772⟩, by decide +kernel, by decide +kernel, by decide +kernel⟩
theorem v_X4_standAt : mV yX4_standAt cX4_standAt 4 none 3 := ⟨⟨k_780, k_15, k_120, k_781⟩, by decide +kernel, by decide +kernel, by decide +kernel⟩
theorem v_X4_cutAway : mV yX4_cutAway cX4_cutAway 2 none 1 := ⟨⟨k_884, k_885, k_120, k_886⟩, by decide +kernel, by decide +kernel, by decide +kernel⟩
theorem v_X4_touchAll : mV yX4_touchAll cX4_touchAll 2 none 0 := ⟨⟨k_814, k_21, k_120, k_815⟩, by decide +kernel, by decide +kernel, by decide +kernel⟩
theorem v_X4_left : mV yX4_left cX4_left 6 (some .int) 0 := ⟨⟨k_843, k_844, k_120, k_845⟩, by decide +kernel, by decide +kernel, by decide +kernel⟩
theorem v_X5_init : mI yX5_init cX5_init 2 1 := ⟨⟨k_398, k_124, k_399⟩, by decide +kernel, by decide +kernel, by decide +kernel⟩
theorem v_X6_init : mI yX6_init cX6_init 1 0 := ⟨⟨k_438, k_126, k_439⟩, by decide +kernel, by decide +kernel, by decide +kernel⟩
theorem v_X6_put : mV yX6_put cX6_put 4 none 3 := ⟨⟨k_1170, k_1171, k_126, k_1172⟩, by decide +kernel, by decide +kernel, by decide +kernel⟩
theorem v_X6_seek : mV yX6_seek cX6_seek 5 none 2 := ⟨⟨k_1178, k_1179, k_126, k_1180⟩, by decide +kernel, by decide +kernel, by decide +kernel⟩
theorem v_X6_weigh : mV yX6_weigh cX6_weigh 4 none 3 := ⟨⟨k_1187, k_38, k_126, k_1188⟩, by decide +kernel, by decide +kernel, by decide +kernel⟩
theorem v_X6_amount : mV yX6_amount cX6_amount 8 (some .int) 4 := ⟨⟨k_1183, k_37, k_126, k_1184⟩, by decide +kernel, by decide +kernel, by decide +kernel⟩
theorem v_X7_init : mI yX7_init cX7_init 1 0 := ⟨⟨k_468, k_127, k_469⟩, by decide +kernel, by decide +kernel, by decide +kernel⟩
theorem v_X7_tell : mV yX7_tell cX7_tell 4 none 3 := ⟨⟨k_1194, k_1195, k_127, k_1196⟩, by decide +kernel, by decide +kernel, by decide +kernel⟩
theorem v_X7_told : mV yX7_told cX7_told 3 (some .int) 0 := ⟨⟨k_1219, k_1220, k_127, k_1221⟩, by decide +kernel, by decide +kernel, by decide +kernel⟩
theorem v_X7_together : mV yX7_together cX7_together 4 (some .long) 0 := ⟨⟨k_1206, k_1207, k_127, k_1208⟩, by decide +kernel, by decide +kernel, by decide +kernel⟩
theorem v_X8_init : mI yX8_init cX8_init 1 0 := ⟨⟨k_147, k_117, k_148⟩, by decide +kernel, by decide +kernel, by decide +kernel⟩
theorem v_X8_hasRoom : mV yX8_hasRoom cX8_hasRoom 2 (some .boolean) 1 := ⟨⟨k_540, k_541, k_117, k_542⟩, by decide +kernel, by decide +kernel, by decide +kernel⟩
theorem v_X8_put : mV yX8_put cX8_put 3 none 1 := ⟨⟨k_544, k_545, k_117, k_546⟩, by decide +kernel, by decide +kernel, by decide +kernel⟩
theorem v_X9_init : mI yX9_init cX9_init 1 0 := ⟨⟨k_191, k_119, k_192⟩, by decide +kernel, by decide +kernel, by decide +kernel⟩
theorem v_X9_value : mV yX9_value cX9_value 6 (some .int) 4 := ⟨⟨k_784, k_785, k_119, k_786⟩, by decide +kernel, by decide +kernel, by decide +kernel⟩
theorem v_X10_init : mI yX10_init cX10_init 2 1 := ⟨⟨k_425, k_125, k_426⟩, by decide +kernel, by decide +kernel, by decide +kernel⟩
theorem v_X10_fall : mV yX10_fall cX10_fall 1 none 0 := ⟨⟨k_758, k_759, k_125, k_760⟩, by decide +kernel, by decide +kernel, by decide +kernel⟩
theorem v_X11_init : mI yX11_init cX11_init 1 0 := ⟨⟨k_139, k_116, k_140⟩, by decide +kernel, by decide +kernel, by decide +kernel⟩
theorem v_X11_pitch : mV yX11_pitch cX11_pitch 2 (some .boolean) 1 := ⟨⟨k_524, k_525, k_116, k_526⟩, by decide +kernel, by decide +kernel, by decide +kernel⟩
theorem v_X11_seed : mV yX11_seed cX11_seed 2 (some .boolean) 1 := ⟨⟨k_531, k_532, k_116, k_533⟩, by decide +kernel, by decide +kernel, by decide +kernel⟩
theorem v_X11_feed : mV yX11_feed cX11_feed 6 (some .int) 5 := ⟨⟨k_536, k_537, k_116, k_538⟩, by decide +kernel, by decide +kernel, by decide +kernel⟩
theorem v_X11_rule : mV yX11_rule cX11_rule 2 (some .int) 1 := ⟨⟨k_548, k_549, k_116, k_550⟩, by decide +kernel, by decide +kernel, by decide +kernel⟩
theorem v_X11_sand : mV yX11_sand cX11_sand 2 (some .int) 1 := ⟨⟨k_740, k_741, k_116, k_742⟩, by decide +kernel, by decide +kernel, by decide +kernel⟩
theorem v_X11_stain : mV yX11_stain cX11_stain 2 (some .int) 1 := ⟨⟨k_745, k_746, k_116, k_747⟩, by decide +kernel, by decide +kernel, by decide +kernel⟩
theorem v_X11_readText : mV yX11_readText cX11_readText 6 (some .int) 3 := ⟨⟨k_554, k_0, k_116, k_555⟩, by decide +kernel, by decide +kernel, by decide +kernel⟩
theorem v_X11_build : mV yX11_build cX11_build 3 (some .int) 2 := ⟨⟨k_750, k_751, k_116, k_752⟩, by decide +kernel, by decide +kernel, by decide +kernel⟩
theorem v_X11_mound : mV yX11_mound cX11_mound 3 (some .boolean) 2 := ⟨⟨k_817, k_818, k_116, k_819⟩, by decide +kernel, by decide +kernel, by decide +kernel⟩
theorem v_X11_bury : mV yX11_bury cX11_bury 2 (some .int) 1 := ⟨⟨k_821, k_822, k_116, k_823⟩, by decide +kernel, by decide +kernel, by decide +kernel⟩
theorem v_X11_lies : mV yX11_lies cX11_lies 7 (some .boolean) 5 := ⟨⟨k_847, k_848, k_116, k_849⟩, by decide +kernel, by decide +kernel, by decide +kernel⟩
theorem v_X11_gone : mV yX11_gone cX11_gone 5 (some .boolean) 3 := ⟨⟨k_856, k_857, k_116, k_858⟩, by decide +kernel, by decide +kernel, by decide +kernel⟩
theorem v_X11_rivet : mV yX11_rivet cX11_rivet 6 (some .int) 4 := ⟨⟨k_864, k_865, k_116, k_866⟩, by decide +kernel, by decide +kernel, by decide +kernel⟩
theorem v_X11_cut : mV yX11_cut cX11_cut 2 (some .boolean) 1 := ⟨⟨k_876, k_877, k_116, k_878⟩, by decide +kernel, by decide +kernel, by decide +kernel⟩
theorem v_X11_drawing : mV yX11_drawing cX11_drawing 2 (some .int) 1 := ⟨⟨k_888, k_889, k_116, k_890⟩, by decide +kernel, by decide +kernel, by decide +kernel⟩
theorem v_X11_mark : mV yX11_mark cX11_mark 8 (some .boolean) 6 := ⟨⟨k_896, k_897, k_116, k_898⟩, by decide +kernel, by decide +kernel, by decide +kernel⟩
theorem v_X11_draw : mV yX11_draw cX11_draw 5 (some .int) 4 := ⟨⟨k_909, k_910, k_116, k_911⟩, by decide +kernel, by decide +kernel, by decide +kernel⟩
theorem v_X11_marked : mV yX11_marked cX11_marked 7 (some .int) 5 := ⟨⟨k_930, k_931, k_116, k_932⟩, by decide +kernel, by decide +kernel, by decide +kernel⟩
theorem v_X11_joined : mV yX11_joined cX11_joined 5 (some .int) 3 := ⟨⟨k_939, k_940, k_116, k_941⟩, by decide +kernel, by decide +kernel, by decide +kernel⟩
theorem v_X11_off : mV yX11_off cX11_off 4 (some .int) 3 := ⟨⟨k_974, k_975, k_116, k_976⟩, by decide +kernel, by decide +kernel, by decide +kernel⟩
theorem v_X11_slipped : mV yX11_slipped cX11_slipped 10 (some .int) 6 := ⟨⟨k_982, k_983, k_116, k_984⟩, by decide +kernel, by decide +kernel, by decide +kernel⟩
theorem v_X11_span : mV yX11_span cX11_span 5 (some .int) 4 := ⟨⟨k_991, k_992, k_116, k_993⟩, by decide +kernel, by decide +kernel, by decide +kernel⟩
theorem v_X11_batten : mV yX11_batten cX11_batten 4 (some .long) 3 := ⟨⟨k_1012, k_1013, k_116, k_1014⟩, by decide +kernel, by decide +kernel, by decide +kernel⟩
theorem v_X11_lost : mV yX11_lost cX11_lost 4 (some .int) 3 := ⟨⟨k_1054, k_1055, k_116, k_1056⟩, by decide +kernel, by decide +kernel, by decide +kernel⟩
theorem v_X11_size : mV yX11_size cX11_size 6 (some .boolean) 4 := ⟨⟨k_1063, k_1064, k_116, k_1065⟩, by decide +kernel, by decide +kernel, by decide +kernel⟩
theorem v_X11_repairs : mV yX11_repairs cX11_repairs 4 (some .long) 3 := ⟨⟨k_1071, k_1072, k_116, k_1073⟩, by decide +kernel, by decide +kernel, by decide +kernel⟩
theorem v_X11_thole : mV yX11_thole cX11_thole 4 (some .boolean) 3 := ⟨⟨k_1110, k_1111, k_116, k_1112⟩, by decide +kernel, by decide +kernel, by decide +kernel⟩
theorem v_X11_oars : mV yX11_oars cX11_oars 2 (some .int) 1 := ⟨⟨k_1118, k_1119, k_116, k_1120⟩, by decide +kernel, by decide +kernel, by decide +kernel⟩
theorem v_X11_pair : mV yX11_pair cX11_pair 7 (some .long) 2 := ⟨⟨k_1151, k_1152, k_116, k_1153⟩, by decide +kernel, by decide +kernel, by decide +kernel⟩
theorem v_X11_phosphor : mV yX11_phosphor cX11_phosphor 4 (some .boolean) 3 := ⟨⟨k_1166, k_1167, k_116, k_1168⟩, by decide +kernel, by decide +kernel, by decide +kernel⟩
theorem v_X11_body : mV yX11_body cX11_body 4 (some .int) 3 := ⟨⟨k_1174, k_1175, k_116, k_1176⟩, by decide +kernel, by decide +kernel, by decide +kernel⟩
theorem v_X11_story : mV yX11_story cX11_story 4 (some .boolean) 3 := ⟨⟨k_1190, k_1191, k_116, k_1192⟩, by decide +kernel, by decide +kernel, by decide +kernel⟩
theorem v_X11_sign : mV yX11_sign cX11_sign 3 (some .boolean) 2 := ⟨⟨k_1198, k_1199, k_116, k_1200⟩, by decide +kernel, by decide +kernel, by decide +kernel⟩
theorem v_X11_odds : mV yX11_odds cX11_odds 2 (some .long) 1 := ⟨⟨k_1202, k_1203, k_116, k_1204⟩, by decide +kernel, by decide +kernel, by decide +kernel⟩
theorem v_X11_next : mV yX11_next cX11_next 3 (some .int) 1 := ⟨⟨k_1215, k_1216, k_116, k_1217⟩, by decide +kernel, by decide +kernel, by decide +kernel⟩
theorem v_X11_area : mV yX11_area cX11_area 5 (some .long) 4 := ⟨⟨k_1237, k_1238, k_116, k_1239⟩, by decide +kernel, by decide +kernel, by decide +kernel⟩
theorem v_X11_volume : mV yX11_volume cX11_volume 4 (some .long) 3 := ⟨⟨k_1257, k_1258, k_116, k_1259⟩, by decide +kernel, by decide +kernel, by decide +kernel⟩
theorem v_X11_depth : mV yX11_depth cX11_depth 4 (some .int) 3 := ⟨⟨k_1267, k_1268, k_116, k_1269⟩, by decide +kernel, by decide +kernel, by decide +kernel⟩
theorem v_X11_pace : mV yX11_pace cX11_pace 2 (some .int) 1 := ⟨⟨k_1277, k_1278, k_116, k_1279⟩, by decide +kernel, by decide +kernel, by decide +kernel⟩
theorem v_X11_length : mV yX11_length cX11_length 3 (some .int) 2 := ⟨⟨k_1284, k_1285, k_116, k_1286⟩, by decide +kernel, by decide +kernel, by decide +kernel⟩
theorem v_X11_joints : mV yX11_joints cX11_joints 5 (some .int) 4 := ⟨⟨k_1298, k_1299, k_116, k_1300⟩, by decide +kernel, by decide +kernel, by decide +kernel⟩
theorem v_X11_lasts : mV yX11_lasts cX11_lasts 5 (some .int) 2 := ⟨⟨k_1325, k_1326, k_116, k_1327⟩, by decide +kernel, by decide +kernel, by decide +kernel⟩
theorem v_X11_check : mV yX11_check cX11_check 5 (some .int) 3 := ⟨⟨k_1330, k_1331, k_116, k_1332⟩, by decide +kernel, by decide +kernel, by decide +kernel⟩
theorem v_X11_count : mV yX11_count cX11_count 2 (some .int) 1 := ⟨⟨k_1343, k_1344, k_116, k_1345⟩, by decide +kernel, by decide +kernel, by decide +kernel⟩
theorem v_X11_within : mS yX11_within cX11_within 3 (some .boolean) 3 := ⟨⟨k_528, k_116, k_529⟩, by decide +kernel, by decide +kernel, by decide +kernel⟩
theorem v_X12_init : mI yX12_init cX12_init 2 0 := ⟨⟨k_1349, k_128, k_1350⟩, by decide +kernel, by decide +kernel, by decide +kernel⟩
theorem v_X12_pitch : mV yX12_pitch cX12_pitch 2 (some .boolean) 1 := ⟨⟨k_1598, k_1599, k_128, k_1600⟩, by decide +kernel, by decide +kernel, by decide +kernel⟩
theorem v_X12_isIn : mS yX12_isIn cX12_isIn 6 (some .boolean) 3 := ⟨⟨k_1603, k_128, k_1604⟩, by decide +kernel, by decide +kernel, by decide +kernel⟩
theorem v_X12_seed : mV yX12_seed cX12_seed 2 (some .boolean) 1 := ⟨⟨k_1606, k_1607, k_128, k_1608⟩, by decide +kernel, by decide +kernel, by decide +kernel⟩
theorem v_X12_push : mV yX12_push cX12_push 3 none 1 := ⟨⟨k_1616, k_47, k_128, k_1617⟩, by decide +kernel, by decide +kernel, by decide +kernel⟩
theorem v_X12_feed : mV yX12_feed cX12_feed 6 (some .int) 5 := ⟨⟨k_1611, k_1612, k_128, k_1613⟩, by decide +kernel, by decide +kernel, by decide +kernel⟩
theorem v_X12_readsText : mV yX12_readsText cX12_readsText 5 (some .int) 2 := ⟨⟨k_1624, k_48, k_128, k_1625⟩, by decide +kernel, by decide +kernel, by decide +kernel⟩
theorem v_X12_rule : mV yX12_rule cX12_rule 2 (some .int) 1 := ⟨⟨k_1619, k_1620, k_128, k_1621⟩, by decide +kernel, by decide +kernel, by decide +kernel⟩
theorem v_X12_sand : mV yX12_sand cX12_sand 2 (some .int) 1 := ⟨⟨k_1721, k_1722, k_128, k_1723⟩, by decide +kernel, by decide +kernel, by decide +kernel⟩
theorem v_X12_stain : mV yX12_stain cX12_stain 2 (some .int) 1 := ⟨⟨k_1725, k_1726, k_128, k_1727⟩, by decide +kernel, by decide +kernel, by decide +kernel⟩
theorem v_X12_clears : mV yX12_clears cX12_clears 1 none 0 := ⟨⟨k_1744, k_69, k_128, k_1745⟩, by decide +kernel, by decide +kernel, by decide +kernel⟩
theorem v_X12_tells : mV yX12_tells cX12_tells 7 (some .int) 4 := ⟨⟨k_1748, k_70, k_128, k_1749⟩, by decide +kernel, by decide +kernel, by decide +kernel⟩
theorem v_X12_cellOf : mS yX12_cellOf cX12_cellOf 3 (some .int) 3 := ⟨⟨k_1736, k_128, k_1737⟩, by decide +kernel, by decide +kernel, by decide +kernel⟩
theorem v_X12_isStation : mV yX12_isStation cX12_isStation 2 (some .boolean) 1 := ⟨⟨k_1805, k_79, k_128, k_1806⟩, by decide +kernel, by decide +kernel, by decide +kernel⟩
theorem v_X12_isStrake : mV yX12_isStrake cX12_isStrake 2 (some .boolean) 1 := ⟨⟨k_1809, k_80, k_128, k_1810⟩, by decide +kernel, by decide +kernel, by decide +kernel⟩
theorem v_X12_isRivet : mV yX12_isRivet cX12_isRivet 4 (some .boolean) 3 := ⟨⟨k_1801, k_78, k_128, k_1802⟩, by decide +kernel, by decide +kernel, by decide +kernel⟩
theorem v_X12_stands : mV yX12_stands cX12_stands 4 none 3 := ⟨⟨k_1740, k_68, k_128, k_1741⟩, by decide +kernel, by decide +kernel, by decide +kernel⟩
theorem v_X12_build : mV yX12_build cX12_build 7 (some .int) 2 := ⟨⟨k_1729, k_1730, k_128, k_1731⟩, by decide +kernel, by decide +kernel, by decide +kernel⟩
theorem v_X12_mound : mV yX12_mound cX12_mound 3 (some .boolean) 2 := ⟨⟨k_1770, k_1771, k_128, k_1772⟩, by decide +kernel, by decide +kernel, by decide +kernel⟩
theorem v_X12_left : mV yX12_left cX12_left 4 (some .int) 0 := ⟨⟨k_1793, k_77, k_128, k_1794⟩, by decide +kernel, by decide +kernel, by decide +kernel⟩
theorem v_X12_bury : mV yX12_bury cX12_bury 6 (some .int) 1 := ⟨⟨k_1775, k_1776, k_128, k_1777⟩, by decide +kernel, by decide +kernel, by decide +kernel⟩
theorem v_X12_lies : mV yX12_lies cX12_lies 6 (some .boolean) 5 := ⟨⟨k_1796, k_1797, k_128, k_1798⟩, by decide +kernel, by decide +kernel, by decide +kernel⟩
theorem v_X12_gone : mV yX12_gone cX12_gone 4 (some .boolean) 3 := ⟨⟨k_1814, k_1815, k_128, k_1816⟩, by decide +kernel, by decide +kernel, by decide +kernel⟩
theorem v_X12_rivet : mV yX12_rivet cX12_rivet 6 (some .int) 4 := ⟨⟨k_1818, k_1819, k_128, k_1820⟩, by decide +kernel, by decide +kernel, by decide +kernel⟩
theorem v_X12_cut : mV yX12_cut cX12_cut 2 (some .boolean) 1 := ⟨⟨k_1829, k_1830, k_128, k_1831⟩, by decide +kernel, by decide +kernel, by decide +kernel⟩
theorem v_X12_isDrawing : mV yX12_isDrawing cX12_isDrawing 2 (some .boolean) 1 := ⟨⟨k_1843, k_82, k_128, k_1844⟩, by decide +kernel, by decide +kernel, by decide +kernel⟩
theorem v_X12_drawing : mV yX12_drawing cX12_drawing 3 (some .int) 1 := ⟨⟨k_1833, k_1834, k_128, k_1835⟩, by decide +kernel, by decide +kernel, by decide +kernel⟩
theorem v_X12_mark : mV yX12_mark cX12_mark 7 (some .boolean) 6 := ⟨⟨k_1838, k_1839, k_128, k_1840⟩, by decide +kernel, by decide +kernel, by decide +kernel⟩
theorem v_X12_draw : mV yX12_draw cX12_draw 9 (some .int) 4 := ⟨⟨k_1852, k_1853, k_128, k_1854⟩, by decide +kernel, by decide +kernel, by decide +kernel⟩
theorem v_X12_marked : mV yX12_marked cX12_marked 7 (some .int) 5 := ⟨⟨k_1862, k_1863, k_128, k_1864⟩, by decide +kernel, by decide +kernel, by decide +kernel⟩
theorem v_X12_areTwo : mV yX12_areTwo cX12_areTwo 3 (some .boolean) 2 := ⟨⟨k_1871, k_85, k_128, k_1872⟩, by decide +kernel, by decide +kernel, by decide +kernel⟩
theorem v_X12_joined : mV yX12_joined cX12_joined 4 (some .int) 3 := ⟨⟨k_1866, k_1867, k_128, k_1868⟩, by decide +kernel, by decide +kernel, by decide +kernel⟩
theorem v_X12_off : mV yX12_off cX12_off 6 (some .int) 3 := ⟨⟨k_1899, k_1900, k_128, k_1901⟩, by decide +kernel, by decide +kernel, by decide +kernel⟩
theorem v_X12_slipped : mV yX12_slipped cX12_slipped 10 (some .int) 6 := ⟨⟨k_1904, k_1905, k_128, k_1906⟩, by decide +kernel, by decide +kernel, by decide +kernel⟩
theorem v_X12_changes : mV yX12_changes cX12_changes 2 none 0 := ⟨⟨k_1767, k_74, k_128, k_1768⟩, by decide +kernel, by decide +kernel, by decide +kernel⟩
theorem v_X12_isOut : mS yX12_isOut cX12_isOut 1 (some .boolean) 1 := ⟨⟨k_1916, k_128, k_1917⟩, by decide +kernel, by decide +kernel, by decide +kernel⟩
theorem v_X12_span : mV yX12_span cX12_span 5 (some .int) 4 := ⟨⟨k_1912, k_1913, k_128, k_1914⟩, by decide +kernel, by decide +kernel, by decide +kernel⟩
theorem v_X12_isBent : mV yX12_isBent cX12_isBent 3 (some .boolean) 2 := ⟨⟨k_1933, k_94, k_128, k_1934⟩, by decide +kernel, by decide +kernel, by decide +kernel⟩
theorem v_X12_batten : mV yX12_batten cX12_batten 4 (some .long) 3 := ⟨⟨k_1928, k_1929, k_128, k_1930⟩, by decide +kernel, by decide +kernel, by decide +kernel⟩
theorem v_X12_lost : mV yX12_lost cX12_lost 7 (some .int) 3 := ⟨⟨k_1962, k_1963, k_128, k_1964⟩, by decide +kernel, by decide +kernel, by decide +kernel⟩
theorem v_X12_size : mV yX12_size cX12_size 7 (some .boolean) 4 := ⟨⟨k_1966, k_1967, k_128, k_1968⟩, by decide +kernel, by decide +kernel, by decide +kernel⟩
theorem v_X12_repairs : mV yX12_repairs cX12_repairs 14 (some .long) 3 := ⟨⟨k_1971, k_1972, k_128, k_1973⟩, by decide +kernel, by decide +kernel, by decide +kernel⟩
theorem v_X12_thole : mV yX12_thole cX12_thole 4 (some .boolean) 3 := ⟨⟨k_1985, k_1986, k_128, k_1987⟩, by decide +kernel, by decide +kernel, by decide +kernel⟩
theorem v_X12_oars : mV yX12_oars cX12_oars 5 (some .int) 1 := ⟨⟨k_1989, k_1990, k_128, k_1991⟩, by decide +kernel, by decide +kernel, by decide +kernel⟩
theorem v_X12_pair : mV yX12_pair cX12_pair 11 (some .long) 2 := ⟨⟨k_2001, k_2002, k_128, k_2003⟩, by decide +kernel, by decide +kernel, by decide +kernel⟩
theorem v_X12_phosphor : mV yX12_phosphor cX12_phosphor 4 (some .boolean) 3 := ⟨⟨k_2006, k_2007, k_128, k_2008⟩, by decide +kernel, by decide +kernel, by decide +kernel⟩
theorem v_X12_muchAt : mV yX12_muchAt cX12_muchAt 8 (some .int) 4 := ⟨⟨k_2020, k_103, k_128, k_2021⟩, by decide +kernel, by decide +kernel, by decide +kernel⟩
theorem v_X12_body : mV yX12_body cX12_body 11 (some .int) 3 := ⟨⟨k_2013, k_2014, k_128, k_2015⟩, by decide +kernel, by decide +kernel, by decide +kernel⟩
theorem v_X12_story : mV yX12_story cX12_story 4 (some .boolean) 3 := ⟨⟨k_2023, k_2024, k_128, k_2025⟩, by decide +kernel, by decide +kernel, by decide +kernel⟩
theorem v_X12_sign : mV yX12_sign cX12_sign 3 (some .boolean) 2 := ⟨⟨k_2027, k_2028, k_128, k_2029⟩, by decide +kernel, by decide +kernel, by decide +kernel⟩
theorem v_X12_storiesTold : mV yX12_storiesTold cX12_storiesTold 3 (some .int) 0 := ⟨⟨k_2044, k_105, k_128, k_2045⟩, by decide +kernel, by decide +kernel, by decide +kernel⟩
theorem v_X12_odds : mV yX12_odds cX12_odds 5 (some .long) 1 := ⟨⟨k_2031, k_2032, k_128, k_2033⟩, by decide +kernel, by decide +kernel, by decide +kernel⟩
theorem v_X12_next : mV yX12_next cX12_next 8 (some .int) 1 := ⟨⟨k_2039, k_2040, k_128, k_2041⟩, by decide +kernel, by decide +kernel, by decide +kernel⟩
theorem v_X12_areBent : mV yX12_areBent cX12_areBent 4 (some .boolean) 1 := ⟨⟨k_2059, k_107, k_128, k_2060⟩, by decide +kernel, by decide +kernel, by decide +kernel⟩
theorem v_X12_isHeight : mS yX12_isHeight cX12_isHeight 1 (some .boolean) 1 := ⟨⟨k_2055, k_128, k_2056⟩, by decide +kernel, by decide +kernel, by decide +kernel⟩
theorem v_X12_area : mV yX12_area cX12_area 5 (some .long) 4 := ⟨⟨k_2051, k_2052, k_128, k_2053⟩, by decide +kernel, by decide +kernel, by decide +kernel⟩
theorem v_X12_volume : mV yX12_volume cX12_volume 4 (some .long) 3 := ⟨⟨k_2066, k_2067, k_128, k_2068⟩, by decide +kernel, by decide +kernel, by decide +kernel⟩
theorem v_X12_depth : mV yX12_depth cX12_depth 5 (some .int) 3 := ⟨⟨k_2074, k_2075, k_128, k_2076⟩, by decide +kernel, by decide +kernel, by decide +kernel⟩
theorem v_X12_pace : mV yX12_pace cX12_pace 2 (some .int) 1 := ⟨⟨k_2079, k_2080, k_128, k_2081⟩, by decide +kernel, by decide +kernel, by decide +kernel⟩
theorem v_X12_length : mV yX12_length cX12_length 3 (some .int) 2 := ⟨⟨k_2087, k_2088, k_128, k_2089⟩, by decide +kernel, by decide +kernel, by decide +kernel⟩
theorem v_X12_joints : mV yX12_joints cX12_joints 7 (some .int) 4 := ⟨⟨k_2099, k_2100, k_128, k_2101⟩, by decide +kernel, by decide +kernel, by decide +kernel⟩
theorem v_X12_lasts : mV yX12_lasts cX12_lasts 5 (some .int) 2 := ⟨⟨k_2112, k_2113, k_128, k_2114⟩, by decide +kernel, by decide +kernel, by decide +kernel⟩
theorem v_X12_check : mV yX12_check cX12_check 5 (some .int) 3 := ⟨⟨k_2118, k_2119, k_128, k_2120⟩, by decide +kernel, by decide +kernel, by decide +kernel⟩
theorem v_X12_count : mV yX12_count cX12_count 2 (some .int) 1 := ⟨⟨k_2126, k_2127, k_128, k_2128⟩, by decide +kernel, by decide +kernel, by decide +kernel⟩
theorem v_J7_fill_53178 : mS yJ7_fill_53178 cJ7_fill_53178 4 none 2 := ⟨⟨k_762, k_135, k_763⟩, by decide +kernel, by decide +kernel, by decide +kernel⟩
end
section
theorem dX0_init_0 : decode cX0_init 0 = .ok (.aload_n 0, 1) := by decide +kernel
theorem dX0_init_1 : decode cX0_init 1 = .ok (.invokespecial 3, 3) := by decide +kernel
theorem dX0_init_4 : decode cX0_init 4 = .ok (.aload_n 0, 1) := by decide +kernel
theorem dX0_init_5 : decode cX0_init 5 = .ok (.sipush 1536, 3) := by decide +kernel
theorem dX0_init_8 : decode cX0_init 8 = .ok (.newarray .int, 2) := by decide +kernel
theorem dX0_init_10 : decode cX0_init 10 = .ok (.putfield 11, 3) := by decide +kernel
theorem dX0_init_13 : decode cX0_init 13 = .ok (.aload_n 0, 1) := by decide +kernel
theorem dX0_init_14 : decode cX0_init 14 = .ok (.sipush 1536, 3) := by decide +kernel
theorem dX0_init_17 : decode cX0_init 17 = .ok (.newarray .int, 2) := by decide +kernel
theorem dX0_init_19 : decode cX0_init 19 = .ok (.putfield 15, 3) := by decide +kernel
theorem dX0_init_22 : decode cX0_init 22 = .ok (.aload_n 0, 1) := by decide +kernel
theorem dX0_init_23 : decode cX0_init 23 = .ok (.sipush 1536, 3) := by decide +kernel
theorem dX0_init_26 : decode cX0_init 26 = .ok (.newarray .boolean, 2) := by decide +kernel
theorem dX0_init_28 : decode cX0_init 28 = .ok (.putfield 18, 3) := by decide +kernel
theorem dX0_init_31 : decode cX0_init 31 = .ok (.aload_n 0, 1) := by decide +kernel
theorem dX0_init_32 : decode cX0_init 32 = .ok (.sipush 384, 3) := by decide +kernel
theorem dX0_init_35 : decode cX0_init 35 = .ok (.newarray .int, 2) := by decide +kernel
theorem dX0_init_37 : decode cX0_init 37 = .ok (.putfield 22, 3) := by decide +kernel
theorem dX0_init_40 : decode cX0_init 40 = .ok (.aload_n 0, 1) := by decide +kernel
theorem dX0_init_41 : decode cX0_init 41 = .ok (.sipush 384, 3) := by decide +kernel
theorem dX0_init_44 : decode cX0_init 44 = .ok (.newarray .int, 2) := by decide +kernel
theorem dX0_init_46 : decode cX0_init 46 = .ok (.putfield 25, 3) := by decide +kernel
theorem dX0_init_49 : decode cX0_init 49 = .ok (.aload_n 0, 1) := by decide +kernel
theorem dX0_init_50 : decode cX0_init 50 = .ok (.aload_n 1, 1) := by decide +kernel
theorem dX0_init_51 : decode cX0_init 51 = .ok (.putfield 28, 3) := by decide +kernel
theorem dX0_init_54 : decode cX0_init 54 = .ok (.return_, 1) := by decide +kernel
theorem dX0_fall_0 : decode cX0_fall 0 = .ok (.aload_n 0, 1) := by decide +kernel
theorem dX0_fall_1 : decode cX0_fall 1 = .ok (.iconst 0, 1) := by decide +kernel
theorem dX0_fall_2 : decode cX0_fall 2 = .ok (.putfield 32, 3) := by decide +kernel
theorem dX0_fall_5 : decode cX0_fall 5 = .ok (.return_, 1) := by decide +kernel
theorem dX0_has_0 : decode cX0_has 0 = .ok (.iload_n 1, 1) := by decide +kernel
theorem dX0_has_1 : decode cX0_has 1 = .ok (.iconst 0, 1) := by decide +kernel
theorem dX0_has_2 : decode cX0_has 2 = .ok (.aload_n 0, 1) := by decide +kernel
theorem dX0_has_3 : decode cX0_has 3 = .ok (.getfield 32, 3) := by decide +kernel
theorem dX0_has_6 : decode cX0_has 6 = .ok (.iconst 1, 1) := by decide +kernel
theorem dX0_has_7 : decode cX0_has 7 = .ok (.isub, 1) := by decide +kernel
theorem dX0_has_8 : decode cX0_has 8 = .ok (.invokestatic 36, 3) := by decide +kernel
theorem dX0_has_11 : decode cX0_has 11 = .ok (.ireturn, 1) := by decide +kernel
theorem dX0_areTwo_0 : decode cX0_areTwo 0 = .ok (.aload_n 0, 1) := by decide +kernel
theorem dX0_areTwo_1 : decode cX0_areTwo 1 = .ok (.iload_n 1, 1) := by decide +kernel
theorem dX0_areTwo_2 : decode cX0_areTwo 2 = .ok (.invokevirtual 40, 3) := by decide +kernel
theorem dX0_areTwo_5 : decode cX0_areTwo 5 = .ok (.ifCond .eq 20, 3) := by decide +kernel
theorem dX0_areTwo_8 : decode cX0_areTwo 8 = .ok (.aload_n 0, 1) := by decide +kernel
theorem dX0_areTwo_9 : decode cX0_areTwo 9 = .ok (.iload_n 2, 1) := by decide +kernel
theorem dX0_areTwo_10 : decode cX0_areTwo 10 = .ok (.invokevirtual 40, 3) := by decide +kernel
theorem dX0_areTwo_13 : decode cX0_areTwo 13 = .ok (.ifCond .eq 12, 3) := by decide +kernel
theorem dX0_areTwo_16 : decode cX0_areTwo 16 = .ok (.iload_n 1, 1) := by decide +kernel
theorem dX0_areTwo_17 : decode cX0_areTwo 17 = .ok (.iload_n 2, 1) := by decide +kernel
theorem dX0_areTwo_18 : decode cX0_areTwo 18 = .ok (.if_icmp .eq 7, 3) := by decide +kernel
theorem dX0_areTwo_21 : decode cX0_areTwo 21 = .ok (.iconst 1, 1) := by decide +kernel
theorem dX0_areTwo_22 : decode cX0_areTwo 22 = .ok (.goto 4, 3) := by decide +kernel
theorem dX0_areTwo_25 : decode cX0_areTwo 25 = .ok (.iconst 0, 1) := by decide +kernel
theorem dX0_areTwo_26 : decode cX0_areTwo 26 = .ok (.ireturn, 1) := by decide +kernel
theorem dX1_init_0 : decode cX1_init 0 = .ok (.aload_n 0, 1) := by decide +kernel
theorem dX1_init_1 : decode cX1_init 1 = .ok (.invokespecial 3, 3) := by decide +kernel
theorem dX1_init_4 : decode cX1_init 4 = .ok (.aload_n 0, 1) := by decide +kernel
theorem dX1_init_5 : decode cX1_init 5 = .ok (.bipush 24, 2) := by decide +kernel
theorem dX1_init_7 : decode cX1_init 7 = .ok (.newarray .int, 2) := by decide +kernel
theorem dX1_init_9 : decode cX1_init 9 = .ok (.putfield 9, 3) := by decide +kernel
theorem dX1_init_12 : decode cX1_init 12 = .ok (.aload_n 0, 1) := by decide +kernel
theorem dX1_init_13 : decode cX1_init 13 = .ok (.bipush 24, 2) := by decide +kernel
theorem dX1_init_15 : decode cX1_init 15 = .ok (.newarray .int, 2) := by decide +kernel
theorem dX1_init_17 : decode cX1_init 17 = .ok (.putfield 15, 3) := by decide +kernel
theorem dX1_init_20 : decode cX1_init 20 = .ok (.aload_n 0, 1) := by decide +kernel
theorem dX1_init_21 : decode cX1_init 21 = .ok (.bipush 24, 2) := by decide +kernel
theorem dX1_init_23 : decode cX1_init 23 = .ok (.newarray .boolean, 2) := by decide +kernel
theorem dX1_init_25 : decode cX1_init 25 = .ok (.putfield 18, 3) := by decide +kernel
theorem dX1_init_28 : decode cX1_init 28 = .ok (.aload_n 0, 1) := by decide +kernel
theorem dX1_init_29 : decode cX1_init 29 = .ok (.bipush 24, 2) := by decide +kernel
theorem dX1_init_31 : decode cX1_init 31 = .ok (.newarray .int, 2) := by decide +kernel
theorem dX1_init_33 : decode cX1_init 33 = .ok (.putfield 22, 3) := by decide +kernel
theorem dX1_init_36 : decode cX1_init 36 = .ok (.aload_n 0, 1) := by decide +kernel
theorem dX1_init_37 : decode cX1_init 37 = .ok (.aload_n 1, 1) := by decide +kernel
theorem dX1_init_38 : decode cX1_init 38 = .ok (.putfield 25, 3) := by decide +kernel
theorem dX1_init_41 : decode cX1_init 41 = .ok (.aload_n 0, 1) := by decide +kernel
theorem dX1_init_42 : decode cX1_init 42 = .ok (.aload_n 2, 1) := by decide +kernel
theorem dX1_init_43 : decode cX1_init 43 = .ok (.putfield 29, 3) := by decide +kernel
theorem dX1_init_46 : decode cX1_init 46 = .ok (.return_, 1) := by decide +kernel
theorem dX1_isToldUpTo_0 : decode cX1_isToldUpTo 0 = .ok (.iload_n 1, 1) := by decide +kernel
theorem dX1_isToldUpTo_1 : decode cX1_isToldUpTo 1 = .ok (.iconst 0, 1) := by decide +kernel
theorem dX1_isToldUpTo_2 : decode cX1_isToldUpTo 2 = .ok (.aload_n 0, 1) := by decide +kernel
theorem dX1_isToldUpTo_3 : decode cX1_isToldUpTo 3 = .ok (.getfield 25, 3) := by decide +kernel
theorem dX1_isToldUpTo_6 : decode cX1_isToldUpTo 6 = .ok (.getfield 33, 3) := by decide +kernel
theorem dX1_isToldUpTo_9 : decode cX1_isToldUpTo 9 = .ok (.iconst 1, 1) := by decide +kernel
theorem dX1_isToldUpTo_10 : decode cX1_isToldUpTo 10 = .ok (.isub, 1) := by decide +kernel
theorem dX1_isToldUpTo_11 : decode cX1_isToldUpTo 11 = .ok (.invokestatic 39, 3) := by decide +kernel
theorem dX1_isToldUpTo_14 : decode cX1_isToldUpTo 14 = .ok (.ifCond .ne 5, 3) := by decide +kernel
theorem dX1_isToldUpTo_17 : decode cX1_isToldUpTo 17 = .ok (.iconst 0, 1) := by decide +kernel
theorem dX1_isToldUpTo_18 : decode cX1_isToldUpTo 18 = .ok (.ireturn, 1) := by decide +kernel
theorem dX1_isToldUpTo_19 : decode cX1_isToldUpTo 19 = .ok (.iconst 0, 1) := by decide +kernel
theorem dX1_isToldUpTo_20 : decode cX1_isToldUpTo 20 = .ok (.istore_n 3, 1) := by decide +kernel
theorem dX1_isToldUpTo_21 : decode cX1_isToldUpTo 21 = .ok (.iload_n 3, 1) := by decide +kernel
theorem dX1_isToldUpTo_22 : decode cX1_isToldUpTo 22 = .ok (.iload_n 1, 1) := by decide +kernel
theorem dX1_isToldUpTo_23 : decode cX1_isToldUpTo 23 = .ok (.if_icmp .gt 23, 3) := by decide +kernel
theorem dX1_isToldUpTo_26 : decode cX1_isToldUpTo 26 = .ok (.aload_n 0, 1) := by decide +kernel
theorem dX1_isToldUpTo_27 : decode cX1_isToldUpTo 27 = .ok (.getfield 29, 3) := by decide +kernel
theorem dX1_isToldUpTo_30 : decode cX1_isToldUpTo 30 = .ok (.iload_n 3, 1) := by decide +kernel
theorem dX1_isToldUpTo_31 : decode cX1_isToldUpTo 31 = .ok (.iload_n 2, 1) := by decide +kernel
theorem dX1_isToldUpTo_32 : decode cX1_isToldUpTo 32 = .ok (.invokevirtual 43, 3) := by decide +kernel
theorem dX1_isToldUpTo_35 : decode cX1_isToldUpTo 35 = .ok (.ifCond .ne 5, 3) := by decide +kernel
theorem dX1_isToldUpTo_38 : decode cX1_isToldUpTo 38 = .ok (.iconst 0, 1) := by decide +kernel
theorem dX1_isToldUpTo_39 : decode cX1_isToldUpTo 39 = .ok (.ireturn, 1) := by decide +kernel
theorem dX1_isToldUpTo_40 : decode cX1_isToldUpTo 40 = .ok (.iinc 3 1, 3) := by decide +kernel
theorem dX1_isToldUpTo_43 : decode cX1_isToldUpTo 43 = .ok (.goto (-22), 3) := by decide +kernel
theorem dX1_isToldUpTo_46 : decode cX1_isToldUpTo 46 = .ok (.iconst 1, 1) := by decide +kernel
theorem dX1_isToldUpTo_47 : decode cX1_isToldUpTo 47 = .ok (.ireturn, 1) := by decide +kernel
theorem dX2_init_0 : decode cX2_init 0 = .ok (.aload_n 0, 1) := by decide +kernel
theorem dX2_init_1 : decode cX2_init 1 = .ok (.invokespecial 5, 3) := by decide +kernel
theorem dX2_init_4 : decode cX2_init 4 = .ok (.aload_n 0, 1) := by decide +kernel
theorem dX2_init_5 : decode cX2_init 5 = .ok (.bipush 24, 2) := by decide +kernel
theorem dX2_init_7 : decode cX2_init 7 = .ok (.newarray .int, 2) := by decide +kernel
theorem dX2_init_9 : decode cX2_init 9 = .ok (.putfield 11, 3) := by decide +kernel
theorem dX2_init_12 : decode cX2_init 12 = .ok (.aload_n 0, 1) := by decide +kernel
theorem dX2_init_13 : decode cX2_init 13 = .ok (.bipush 24, 2) := by decide +kernel
theorem dX2_init_15 : decode cX2_init 15 = .ok (.newarray .int, 2) := by decide +kernel
theorem dX2_init_17 : decode cX2_init 17 = .ok (.putfield 15, 3) := by decide +kernel
theorem dX2_init_20 : decode cX2_init 20 = .ok (.aload_n 0, 1) := by decide +kernel
theorem dX2_init_21 : decode cX2_init 21 = .ok (.bipush 24, 2) := by decide +kernel
theorem dX2_init_23 : decode cX2_init 23 = .ok (.newarray .boolean, 2) := by decide +kernel
theorem dX2_init_25 : decode cX2_init 25 = .ok (.putfield 18, 3) := by decide +kernel
theorem dX2_init_28 : decode cX2_init 28 = .ok (.aload_n 0, 1) := by decide +kernel
theorem dX2_init_29 : decode cX2_init 29 = .ok (.sipush 192, 3) := by decide +kernel
theorem dX2_init_32 : decode cX2_init 32 = .ok (.newarray .int, 2) := by decide +kernel
theorem dX2_init_34 : decode cX2_init 34 = .ok (.putfield 22, 3) := by decide +kernel
theorem dX2_init_37 : decode cX2_init 37 = .ok (.aload_n 0, 1) := by decide +kernel
theorem dX2_init_38 : decode cX2_init 38 = .ok (.bipush 8, 2) := by decide +kernel
theorem dX2_init_40 : decode cX2_init 40 = .ok (.newarray .long, 2) := by decide +kernel
theorem dX2_init_42 : decode cX2_init 42 = .ok (.putfield 25, 3) := by decide +kernel
theorem dX2_init_45 : decode cX2_init 45 = .ok (.aload_n 0, 1) := by decide +kernel
theorem dX2_init_46 : decode cX2_init 46 = .ok (.bipush 8, 2) := by decide +kernel
theorem dX2_init_48 : decode cX2_init 48 = .ok (.newarray .boolean, 2) := by decide +kernel
theorem dX2_init_50 : decode cX2_init 50 = .ok (.putfield 29, 3) := by decide +kernel
theorem dX2_init_53 : decode cX2_init 53 = .ok (.aload_n 0, 1) := by decide +kernel
theorem dX2_init_54 : decode cX2_init 54 = .ok (.bipush 8, 2) := by decide +kernel
theorem dX2_init_56 : decode cX2_init 56 = .ok (.newarray .int, 2) := by decide +kernel
theorem dX2_init_58 : decode cX2_init 58 = .ok (.putfield 32, 3) := by decide +kernel
theorem dX2_init_61 : decode cX2_init 61 = .ok (.aload_n 0, 1) := by decide +kernel
theorem dX2_init_62 : decode cX2_init 62 = .ok (.bipush 8, 2) := by decide +kernel
theorem dX2_init_64 : decode cX2_init 64 = .ok (.newarray .int, 2) := by decide +kernel
theorem dX2_init_66 : decode cX2_init 66 = .ok (.putfield 35, 3) := by decide +kernel
theorem dX2_init_69 : decode cX2_init 69 = .ok (.aload_n 0, 1) := by decide +kernel
theorem dX2_init_70 : decode cX2_init 70 = .ok (.ldc 38, 2) := by decide +kernel
theorem dX2_init_72 : decode cX2_init 72 = .ok (.newarray .byte, 2) := by decide +kernel
theorem dX2_init_74 : decode cX2_init 74 = .ok (.putfield 39, 3) := by decide +kernel
theorem dX2_init_77 : decode cX2_init 77 = .ok (.aload_n 0, 1) := by decide +kernel
theorem dX2_init_78 : decode cX2_init 78 = .ok (.sipush 3721, 3) := by decide +kernel
theorem dX2_init_81 : decode cX2_init 81 = .ok (.newarray .long, 2) := by decide +kernel
theorem dX2_init_83 : decode cX2_init 83 = .ok (.putfield 43, 3) := by decide +kernel
theorem dX2_init_86 : decode cX2_init 86 = .ok (.aload_n 0, 1) := by decide +kernel
theorem dX2_init_87 : decode cX2_init 87 = .ok (.sipush 3721, 3) := by decide +kernel
theorem dX2_init_90 : decode cX2_init 90 = .ok (.newarray .long, 2) := by decide +kernel
theorem dX2_init_92 : decode cX2_init 92 = .ok (.putfield 46, 3) := by decide +kernel
theorem dX2_init_95 : decode cX2_init 95 = .ok (.aload_n 0, 1) := by decide +kernel
theorem dX2_init_96 : decode cX2_init 96 = .ok (.aload_n 1, 1) := by decide +kernel
theorem dX2_init_97 : decode cX2_init 97 = .ok (.putfield 49, 3) := by decide +kernel
theorem dX2_init_100 : decode cX2_init 100 = .ok (.return_, 1) := by decide +kernel
theorem dX2_fits_0 : decode cX2_fits 0 = .ok (.iload_n 1, 1) := by decide +kernel
theorem dX2_fits_1 : decode cX2_fits 1 = .ok (.iconst 0, 1) := by decide +kernel
theorem dX2_fits_2 : decode cX2_fits 2 = .ok (.aload_n 0, 1) := by decide +kernel
theorem dX2_fits_3 : decode cX2_fits 3 = .ok (.getfield 49, 3) := by decide +kernel
theorem dX2_fits_6 : decode cX2_fits 6 = .ok (.getfield 53, 3) := by decide +kernel
theorem dX2_fits_9 : decode cX2_fits 9 = .ok (.iconst 1, 1) := by decide +kernel
theorem dX2_fits_10 : decode cX2_fits 10 = .ok (.isub, 1) := by decide +kernel
theorem dX2_fits_11 : decode cX2_fits 11 = .ok (.invokestatic 59, 3) := by decide +kernel
theorem dX2_fits_14 : decode cX2_fits 14 = .ok (.ifCond .eq 13, 3) := by decide +kernel
theorem dX2_fits_17 : decode cX2_fits 17 = .ok (.iload_n 2, 1) := by decide +kernel
theorem dX2_fits_18 : decode cX2_fits 18 = .ok (.iconst 0, 1) := by decide +kernel
theorem dX2_fits_19 : decode cX2_fits 19 = .ok (.bipush 40, 2) := by decide +kernel
theorem dX2_fits_21 : decode cX2_fits 21 = .ok (.invokestatic 59, 3) := by decide +kernel
theorem dX2_fits_24 : decode cX2_fits 24 = .ok (.ifCond .ne 5, 3) := by decide +kernel
theorem dX2_fits_27 : decode cX2_fits 27 = .ok (.iconst 0, 1) := by decide +kernel
theorem dX2_fits_28 : decode cX2_fits 28 = .ok (.ireturn, 1) := by decide +kernel
theorem dX2_fits_29 : decode cX2_fits 29 = .ok (.aload_n 0, 1) := by decide +kernel
theorem dX2_fits_30 : decode cX2_fits 30 = .ok (.getfield 32, 3) := by decide +kernel
theorem dX2_fits_33 : decode cX2_fits 33 = .ok (.iload_n 1, 1) := by decide +kernel
theorem dX2_fits_34 : decode cX2_fits 34 = .ok (.iaload, 1) := by decide +kernel
theorem dX2_fits_35 : decode cX2_fits 35 = .ok (.iload_n 2, 1) := by decide +kernel
theorem dX2_fits_36 : decode cX2_fits 36 = .ok (.if_icmp .ne 21, 3) := by decide +kernel
theorem dX2_fits_39 : decode cX2_fits 39 = .ok (.aload_n 0, 1) := by decide +kernel
theorem dX2_fits_40 : decode cX2_fits 40 = .ok (.getfield 35, 3) := by decide +kernel
theorem dX2_fits_43 : decode cX2_fits 43 = .ok (.iload_n 1, 1) := by decide +kernel
theorem dX2_fits_44 : decode cX2_fits 44 = .ok (.iaload, 1) := by decide +kernel
theorem dX2_fits_45 : decode cX2_fits 45 = .ok (.aload_n 0, 1) := by decide +kernel
theorem dX2_fits_46 : decode cX2_fits 46 = .ok (.getfield 49, 3) := by decide +kernel
theorem dX2_fits_49 : decode cX2_fits 49 = .ok (.getfield 63, 3) := by decide +kernel
theorem dX2_fits_52 : decode cX2_fits 52 = .ok (.iload_n 1, 1) := by decide +kernel
theorem dX2_fits_53 : decode cX2_fits 53 = .ok (.iaload, 1) := by decide +kernel
theorem dX2_fits_54 : decode cX2_fits 54 = .ok (.if_icmp .eq 51, 3) := by decide +kernel
theorem dX2_fits_57 : decode cX2_fits 57 = .ok (.aload_n 0, 1) := by decide +kernel
theorem dX2_fits_58 : decode cX2_fits 58 = .ok (.getfield 32, 3) := by decide +kernel
theorem dX2_fits_61 : decode cX2_fits 61 = .ok (.iload_n 1, 1) := by decide +kernel
theorem dX2_fits_62 : decode cX2_fits 62 = .ok (.iload_n 2, 1) := by decide +kernel
theorem dX2_fits_63 : decode cX2_fits 63 = .ok (.iastore, 1) := by decide +kernel
theorem dX2_fits_64 : decode cX2_fits 64 = .ok (.aload_n 0, 1) := by decide +kernel
theorem dX2_fits_65 : decode cX2_fits 65 = .ok (.getfield 35, 3) := by decide +kernel
theorem dX2_fits_68 : decode cX2_fits 68 = .ok (.iload_n 1, 1) := by decide +kernel
theorem dX2_fits_69 : decode cX2_fits 69 = .ok (.aload_n 0, 1) := by decide +kernel
theorem dX2_fits_70 : decode cX2_fits 70 = .ok (.getfield 49, 3) := by decide +kernel
theorem dX2_fits_73 : decode cX2_fits 73 = .ok (.getfield 63, 3) := by decide +kernel
theorem dX2_fits_76 : decode cX2_fits 76 = .ok (.iload_n 1, 1) := by decide +kernel
theorem dX2_fits_77 : decode cX2_fits 77 = .ok (.iaload, 1) := by decide +kernel
theorem dX2_fits_78 : decode cX2_fits 78 = .ok (.iastore, 1) := by decide +kernel
theorem dX2_fits_79 : decode cX2_fits 79 = .ok (.aload_n 0, 1) := by decide +kernel
theorem dX2_fits_80 : decode cX2_fits 80 = .ok (.getfield 29, 3) := by decide +kernel
theorem dX2_fits_83 : decode cX2_fits 83 = .ok (.iload_n 1, 1) := by decide +kernel
theorem dX2_fits_84 : decode cX2_fits 84 = .ok (.aload_n 0, 1) := by decide +kernel
theorem dX2_fits_85 : decode cX2_fits 85 = .ok (.iload_n 1, 1) := by decide +kernel
theorem dX2_fits_86 : decode cX2_fits 86 = .ok (.iload_n 2, 1) := by decide +kernel
theorem dX2_fits_87 : decode cX2_fits 87 = .ok (.invokevirtual 66, 3) := by decide +kernel
theorem dX2_fits_90 : decode cX2_fits 90 = .ok (.bastore, 1) := by decide +kernel
theorem dX2_fits_91 : decode cX2_fits 91 = .ok (.aload_n 0, 1) := by decide +kernel
theorem dX2_fits_92 : decode cX2_fits 92 = .ok (.getfield 29, 3) := by decide +kernel
theorem dX2_fits_95 : decode cX2_fits 95 = .ok (.iload_n 1, 1) := by decide +kernel
theorem dX2_fits_96 : decode cX2_fits 96 = .ok (.baload, 1) := by decide +kernel
theorem dX2_fits_97 : decode cX2_fits 97 = .ok (.ifCond .eq 8, 3) := by decide +kernel
theorem dX2_fits_100 : decode cX2_fits 100 = .ok (.aload_n 0, 1) := by decide +kernel
theorem dX2_fits_101 : decode cX2_fits 101 = .ok (.iload_n 1, 1) := by decide +kernel
theorem dX2_fits_102 : decode cX2_fits 102 = .ok (.invokevirtual 70, 3) := by decide +kernel
theorem dX2_fits_105 : decode cX2_fits 105 = .ok (.aload_n 0, 1) := by decide +kernel
theorem dX2_fits_106 : decode cX2_fits 106 = .ok (.getfield 29, 3) := by decide +kernel
theorem dX2_fits_109 : decode cX2_fits 109 = .ok (.iload_n 1, 1) := by decide +kernel
theorem dX2_fits_110 : decode cX2_fits 110 = .ok (.baload, 1) := by decide +kernel
theorem dX2_fits_111 : decode cX2_fits 111 = .ok (.ireturn, 1) := by decide +kernel
theorem dX3_init_0 : decode cX3_init 0 = .ok (.aload_n 0, 1) := by decide +kernel
theorem dX3_init_1 : decode cX3_init 1 = .ok (.invokespecial 3, 3) := by decide +kernel
theorem dX3_init_4 : decode cX3_init 4 = .ok (.aload_n 0, 1) := by decide +kernel
theorem dX3_init_5 : decode cX3_init 5 = .ok (.aload_n 1, 1) := by decide +kernel
theorem dX3_init_6 : decode cX3_init 6 = .ok (.putfield 9, 3) := by decide +kernel
theorem dX3_init_9 : decode cX3_init 9 = .ok (.return_, 1) := by decide +kernel
theorem dX4_init_0 : decode cX4_init 0 = .ok (.aload_n 0, 1) := by decide +kernel
theorem dX4_init_1 : decode cX4_init 1 = .ok (.invokespecial 3, 3) := by decide +kernel
theorem dX4_init_4 : decode cX4_init 4 = .ok (.aload_n 0, 1) := by decide +kernel
theorem dX4_init_5 : decode cX4_init 5 = .ok (.sipush 384, 3) := by decide +kernel
theorem dX4_init_8 : decode cX4_init 8 = .ok (.newarray .int, 2) := by decide +kernel
theorem dX4_init_10 : decode cX4_init 10 = .ok (.putfield 9, 3) := by decide +kernel
theorem dX4_init_13 : decode cX4_init 13 = .ok (.aload_n 0, 1) := by decide +kernel
theorem dX4_init_14 : decode cX4_init 14 = .ok (.sipush 384, 3) := by decide +kernel
theorem dX4_init_17 : decode cX4_init 17 = .ok (.newarray .int, 2) := by decide +kernel
theorem dX4_init_19 : decode cX4_init 19 = .ok (.putfield 15, 3) := by decide +kernel
theorem dX4_init_22 : decode cX4_init 22 = .ok (.aload_n 0, 1) := by decide +kernel
theorem dX4_init_23 : decode cX4_init 23 = .ok (.sipush 384, 3) := by decide +kernel
theorem dX4_init_26 : decode cX4_init 26 = .ok (.newarray .int, 2) := by decide +kernel
theorem dX4_init_28 : decode cX4_init 28 = .ok (.putfield 18, 3) := by decide +kernel
theorem dX4_init_31 : decode cX4_init 31 = .ok (.aload_n 0, 1) := by decide +kernel
theorem dX4_init_32 : decode cX4_init 32 = .ok (.sipush 384, 3) := by decide +kernel
theorem dX4_init_35 : decode cX4_init 35 = .ok (.newarray .boolean, 2) := by decide +kernel
theorem dX4_init_37 : decode cX4_init 37 = .ok (.putfield 21, 3) := by decide +kernel
theorem dX4_init_40 : decode cX4_init 40 = .ok (.aload_n 0, 1) := by decide +kernel
theorem dX4_init_41 : decode cX4_init 41 = .ok (.bipush 24, 2) := by decide +kernel
theorem dX4_init_43 : decode cX4_init 43 = .ok (.newarray .int, 2) := by decide +kernel
theorem dX4_init_45 : decode cX4_init 45 = .ok (.putfield 25, 3) := by decide +kernel
theorem dX4_init_48 : decode cX4_init 48 = .ok (.aload_n 0, 1) := by decide +kernel
theorem dX4_init_49 : decode cX4_init 49 = .ok (.bipush 8, 2) := by decide +kernel
theorem dX4_init_51 : decode cX4_init 51 = .ok (.newarray .int, 2) := by decide +kernel
theorem dX4_init_53 : decode cX4_init 53 = .ok (.putfield 28, 3) := by decide +kernel
theorem dX4_init_56 : decode cX4_init 56 = .ok (.aload_n 0, 1) := by decide +kernel
theorem dX4_init_57 : decode cX4_init 57 = .ok (.bipush 26, 2) := by decide +kernel
theorem dX4_init_59 : decode cX4_init 59 = .ok (.newarray .int, 2) := by decide +kernel
theorem dX4_init_61 : decode cX4_init 61 = .ok (.putfield 31, 3) := by decide +kernel
theorem dX4_init_64 : decode cX4_init 64 = .ok (.aload_n 0, 1) := by decide +kernel
theorem dX4_init_65 : decode cX4_init 65 = .ok (.iconst 1, 1) := by decide +kernel
theorem dX4_init_66 : decode cX4_init 66 = .ok (.putfield 34, 3) := by decide +kernel
theorem dX4_init_69 : decode cX4_init 69 = .ok (.return_, 1) := by decide +kernel
theorem dX4_stands_0 : decode cX4_stands 0 = .ok (.aload_n 0, 1) := by decide +kernel
theorem dX4_stands_1 : decode cX4_stands 1 = .ok (.getfield 38, 3) := by decide +kernel
theorem dX4_stands_4 : decode cX4_stands 4 = .ok (.ifCond .le 7, 3) := by decide +kernel
theorem dX4_stands_7 : decode cX4_stands 7 = .ok (.iconst 1, 1) := by decide +kernel
theorem dX4_stands_8 : decode cX4_stands 8 = .ok (.goto 4, 3) := by decide +kernel
theorem dX4_stands_11 : decode cX4_stands 11 = .ok (.iconst 0, 1) := by decide +kernel
theorem dX4_stands_12 : decode cX4_stands 12 = .ok (.ireturn, 1) := by decide +kernel
theorem dX4_rivetAt_0 : decode cX4_rivetAt 0 = .ok (.iload_n 1, 1) := by decide +kernel
theorem dX4_rivetAt_1 : decode cX4_rivetAt 1 = .ok (.iconst 0, 1) := by decide +kernel
theorem dX4_rivetAt_2 : decode cX4_rivetAt 2 = .ok (.aload_n 0, 1) := by decide +kernel
theorem dX4_rivetAt_3 : decode cX4_rivetAt 3 = .ok (.getfield 38, 3) := by decide +kernel
theorem dX4_rivetAt_6 : decode cX4_rivetAt 6 = .ok (.iconst 1, 1) := by decide +kernel
theorem dX4_rivetAt_7 : decode cX4_rivetAt 7 = .ok (.isub, 1) := by decide +kernel
theorem dX4_rivetAt_8 : decode cX4_rivetAt 8 = .ok (.invokestatic 41, 3) := by decide +kernel
theorem dX4_rivetAt_11 : decode cX4_rivetAt 11 = .ok (.ifCond .eq 26, 3) := by decide +kernel
theorem dX4_rivetAt_14 : decode cX4_rivetAt 14 = .ok (.iload_n 2, 1) := by decide +kernel
theorem dX4_rivetAt_15 : decode cX4_rivetAt 15 = .ok (.iconst 0, 1) := by decide +kernel
theorem dX4_rivetAt_16 : decode cX4_rivetAt 16 = .ok (.aload_n 0, 1) := by decide +kernel
theorem dX4_rivetAt_17 : decode cX4_rivetAt 17 = .ok (.getfield 45, 3) := by decide +kernel
theorem dX4_rivetAt_20 : decode cX4_rivetAt 20 = .ok (.iconst 1, 1) := by decide +kernel
theorem dX4_rivetAt_21 : decode cX4_rivetAt 21 = .ok (.isub, 1) := by decide +kernel
theorem dX4_rivetAt_22 : decode cX4_rivetAt 22 = .ok (.invokestatic 41, 3) := by decide +kernel
theorem dX4_rivetAt_25 : decode cX4_rivetAt 25 = .ok (.ifCond .eq 12, 3) := by decide +kernel
theorem dX4_rivetAt_28 : decode cX4_rivetAt 28 = .ok (.iload_n 3, 1) := by decide +kernel
theorem dX4_rivetAt_29 : decode cX4_rivetAt 29 = .ok (.iconst 0, 1) := by decide +kernel
theorem dX4_rivetAt_30 : decode cX4_rivetAt 30 = .ok (.iconst 1, 1) := by decide +kernel
theorem dX4_rivetAt_31 : decode cX4_rivetAt 31 = .ok (.invokestatic 41, 3) := by decide +kernel
theorem dX4_rivetAt_34 : decode cX4_rivetAt 34 = .ok (.ifCond .ne 5, 3) := by decide +kernel
theorem dX4_rivetAt_37 : decode cX4_rivetAt 37 = .ok (.iconst (-1), 1) := by decide +kernel
theorem dX4_rivetAt_38 : decode cX4_rivetAt 38 = .ok (.ireturn, 1) := by decide +kernel
theorem dX4_rivetAt_39 : decode cX4_rivetAt 39 = .ok (.iload_n 1, 1) := by decide +kernel
theorem dX4_rivetAt_40 : decode cX4_rivetAt 40 = .ok (.bipush 8, 2) := by decide +kernel
theorem dX4_rivetAt_42 : decode cX4_rivetAt 42 = .ok (.imul, 1) := by decide +kernel
theorem dX4_rivetAt_43 : decode cX4_rivetAt 43 = .ok (.iload_n 2, 1) := by decide +kernel
theorem dX4_rivetAt_44 : decode cX4_rivetAt 44 = .ok (.iadd, 1) := by decide +kernel
theorem dX4_rivetAt_45 : decode cX4_rivetAt 45 = .ok (.iconst 2, 1) := by decide +kernel
theorem dX4_rivetAt_46 : decode cX4_rivetAt 46 = .ok (.imul, 1) := by decide +kernel
theorem dX4_rivetAt_47 : decode cX4_rivetAt 47 = .ok (.iload_n 3, 1) := by decide +kernel
theorem dX4_rivetAt_48 : decode cX4_rivetAt 48 = .ok (.iadd, 1) := by decide +kernel
theorem dX4_rivetAt_49 : decode cX4_rivetAt 49 = .ok (.ireturn, 1) := by decide +kernel
theorem dX4_allStations_0 : decode cX4_allStations 0 = .ok (.iconst 1, 1) := by decide +kernel
theorem dX4_allStations_1 : decode cX4_allStations 1 = .ok (.aload_n 0, 1) := by decide +kernel
theorem dX4_allStations_2 : decode cX4_allStations 2 = .ok (.getfield 38, 3) := by decide +kernel
theorem dX4_allStations_5 : decode cX4_allStations 5 = .ok (.ishl, 1) := by decide +kernel
theorem dX4_allStations_6 : decode cX4_allStations 6 = .ok (.iconst 1, 1) := by decide +kernel
theorem dX4_allStations_7 : decode cX4_allStations 7 = .ok (.isub, 1) := by decide +kernel
theorem dX4_allStations_8 : decode cX4_allStations 8 = .ok (.ireturn, 1) := by decide +kernel
theorem dX4_raise_0 : decode cX4_raise 0 = .ok (.aload_n 0, 1) := by decide +kernel
theorem dX4_raise_1 : decode cX4_raise 1 = .ok (.iload_n 1, 1) := by decide +kernel
theorem dX4_raise_2 : decode cX4_raise 2 = .ok (.putfield 38, 3) := by decide +kernel
theorem dX4_raise_5 : decode cX4_raise 5 = .ok (.aload_n 0, 1) := by decide +kernel
theorem dX4_raise_6 : decode cX4_raise 6 = .ok (.iload_n 2, 1) := by decide +kernel
theorem dX4_raise_7 : decode cX4_raise 7 = .ok (.putfield 45, 3) := by decide +kernel
theorem dX4_raise_10 : decode cX4_raise 10 = .ok (.aload_n 0, 1) := by decide +kernel
theorem dX4_raise_11 : decode cX4_raise 11 = .ok (.iconst 0, 1) := by decide +kernel
theorem dX4_raise_12 : decode cX4_raise 12 = .ok (.putfield 49, 3) := by decide +kernel
theorem dX4_raise_15 : decode cX4_raise 15 = .ok (.aload_n 0, 1) := by decide +kernel
theorem dX4_raise_16 : decode cX4_raise 16 = .ok (.getfield 18, 3) := by decide +kernel
theorem dX4_raise_19 : decode cX4_raise 19 = .ok (.iconst 0, 1) := by decide +kernel
theorem dX4_raise_20 : decode cX4_raise 20 = .ok (.invokestatic 52, 3) := by decide +kernel
theorem dX4_raise_23 : decode cX4_raise 23 = .ok (.aload_n 0, 1) := by decide +kernel
theorem dX4_raise_24 : decode cX4_raise 24 = .ok (.getfield 31, 3) := by decide +kernel
theorem dX4_raise_27 : decode cX4_raise 27 = .ok (.iconst 0, 1) := by decide +kernel
theorem dX4_raise_28 : decode cX4_raise 28 = .ok (.invokestatic 52, 3) := by decide +kernel
theorem dX4_raise_31 : decode cX4_raise 31 = .ok (.iconst 0, 1) := by decide +kernel
theorem dX4_raise_32 : decode cX4_raise 32 = .ok (.istore 4, 2) := by decide +kernel
theorem dX4_raise_34 : decode cX4_raise 34 = .ok (.iload 4, 2) := by decide +kernel
theorem dX4_raise_36 : decode cX4_raise 36 = .ok (.aload_n 0, 1) := by decide +kernel
theorem dX4_raise_37 : decode cX4_raise 37 = .ok (.getfield 38, 3) := by decide +kernel
theorem dX4_raise_40 : decode cX4_raise 40 = .ok (.if_icmp .ge 53, 3) := by decide +kernel
theorem dX4_raise_43 : decode cX4_raise 43 = .ok (.iconst 0, 1) := by decide +kernel
theorem dX4_raise_44 : decode cX4_raise 44 = .ok (.istore 5, 2) := by decide +kernel
theorem dX4_raise_46 : decode cX4_raise 46 = .ok (.iload 5, 2) := by decide +kernel
theorem dX4_raise_48 : decode cX4_raise 48 = .ok (.aload_n 0, 1) := by decide +kernel
theorem dX4_raise_49 : decode cX4_raise 49 = .ok (.getfield 45, 3) := by decide +kernel
theorem dX4_raise_52 : decode cX4_raise 52 = .ok (.if_icmp .ge 35, 3) := by decide +kernel
theorem dX4_raise_55 : decode cX4_raise 55 = .ok (.iconst 0, 1) := by decide +kernel
theorem dX4_raise_56 : decode cX4_raise 56 = .ok (.istore 6, 2) := by decide +kernel
theorem dX4_raise_58 : decode cX4_raise 58 = .ok (.iload 6, 2) := by decide +kernel
theorem dX4_raise_60 : decode cX4_raise 60 = .ok (.iconst 2, 1) := by decide +kernel
theorem dX4_raise_61 : decode cX4_raise 61 = .ok (.if_icmp .ge 20, 3) := by decide +kernel
theorem dX4_raise_64 : decode cX4_raise 64 = .ok (.aload_n 0, 1) := by decide +kernel
theorem dX4_raise_65 : decode cX4_raise 65 = .ok (.iload 4, 2) := by decide +kernel
theorem dX4_raise_67 : decode cX4_raise 67 = .ok (.iload 5, 2) := by decide +kernel
theorem dX4_raise_69 : decode cX4_raise 69 = .ok (.iload 6, 2) := by decide +kernel
theorem dX4_raise_71 : decode cX4_raise 71 = .ok (.aload_n 3, 1) := by decide +kernel
theorem dX4_raise_72 : decode cX4_raise 72 = .ok (.invokevirtual 58, 3) := by decide +kernel
theorem dX4_raise_75 : decode cX4_raise 75 = .ok (.iinc 6 1, 3) := by decide +kernel
theorem dX4_raise_78 : decode cX4_raise 78 = .ok (.goto (-20), 3) := by decide +kernel
theorem dX4_raise_81 : decode cX4_raise 81 = .ok (.iinc 5 1, 3) := by decide +kernel
theorem dX4_raise_84 : decode cX4_raise 84 = .ok (.goto (-38), 3) := by decide +kernel
theorem dX4_raise_87 : decode cX4_raise 87 = .ok (.iinc 4 1, 3) := by decide +kernel
theorem dX4_raise_90 : decode cX4_raise 90 = .ok (.goto (-56), 3) := by decide +kernel
theorem dX4_raise_93 : decode cX4_raise 93 = .ok (.aload_n 0, 1) := by decide +kernel
theorem dX4_raise_94 : decode cX4_raise 94 = .ok (.invokevirtual 62, 3) := by decide +kernel
theorem dX4_raise_97 : decode cX4_raise 97 = .ok (.aload_n 0, 1) := by decide +kernel
theorem dX4_raise_98 : decode cX4_raise 98 = .ok (.getfield 38, 3) := by decide +kernel
theorem dX4_raise_101 : decode cX4_raise 101 = .ok (.aload_n 0, 1) := by decide +kernel
theorem dX4_raise_102 : decode cX4_raise 102 = .ok (.getfield 45, 3) := by decide +kernel
theorem dX4_raise_105 : decode cX4_raise 105 = .ok (.imul, 1) := by decide +kernel
theorem dX4_raise_106 : decode cX4_raise 106 = .ok (.iconst 2, 1) := by decide +kernel
theorem dX4_raise_107 : decode cX4_raise 107 = .ok (.imul, 1) := by decide +kernel
theorem dX4_raise_108 : decode cX4_raise 108 = .ok (.ireturn, 1) := by decide +kernel
theorem dX4_set_0 : decode cX4_set 0 = .ok (.aload_n 0, 1) := by decide +kernel
theorem dX4_set_1 : decode cX4_set 1 = .ok (.iload_n 1, 1) := by decide +kernel
theorem dX4_set_2 : decode cX4_set 2 = .ok (.iload_n 2, 1) := by decide +kernel
theorem dX4_set_3 : decode cX4_set 3 = .ok (.iload_n 3, 1) := by decide +kernel
theorem dX4_set_4 : decode cX4_set 4 = .ok (.invokevirtual 65, 3) := by decide +kernel
theorem dX4_set_7 : decode cX4_set 7 = .ok (.istore 5, 2) := by decide +kernel
theorem dX4_set_9 : decode cX4_set 9 = .ok (.iload 5, 2) := by decide +kernel
theorem dX4_set_11 : decode cX4_set 11 = .ok (.ifCond .ge 4, 3) := by decide +kernel
theorem dX4_set_14 : decode cX4_set 14 = .ok (.return_, 1) := by decide +kernel
theorem dX4_set_15 : decode cX4_set 15 = .ok (.aload_n 0, 1) := by decide +kernel
theorem dX4_set_16 : decode cX4_set 16 = .ok (.iload_n 1, 1) := by decide +kernel
theorem dX4_set_17 : decode cX4_set 17 = .ok (.iload_n 2, 1) := by decide +kernel
theorem dX4_set_18 : decode cX4_set 18 = .ok (.iload_n 3, 1) := by decide +kernel
theorem dX4_set_19 : decode cX4_set 19 = .ok (.invokevirtual 69, 3) := by decide +kernel
theorem dX4_set_22 : decode cX4_set 22 = .ok (.aload_n 0, 1) := by decide +kernel
theorem dX4_set_23 : decode cX4_set 23 = .ok (.getfield 9, 3) := by decide +kernel
theorem dX4_set_26 : decode cX4_set 26 = .ok (.iload 5, 2) := by decide +kernel
theorem dX4_set_28 : decode cX4_set 28 = .ok (.aload 4, 2) := by decide +kernel
theorem dX4_set_30 : decode cX4_set 30 = .ok (.bipush 121, 2) := by decide +kernel
theorem dX4_set_32 : decode cX4_set 32 = .ok (.aload_n 0, 1) := by decide +kernel
theorem dX4_set_33 : decode cX4_set 33 = .ok (.getfield 31, 3) := by decide +kernel
theorem dX4_set_36 : decode cX4_set 36 = .ok (.sipush (-3000), 3) := by decide +kernel
theorem dX4_set_39 : decode cX4_set 39 = .ok (.sipush 3000, 3) := by decide +kernel
theorem dX4_set_42 : decode cX4_set 42 = .ok (.invokevirtual 73, 3) := by decide +kernel
theorem dX4_set_45 : decode cX4_set 45 = .ok (.iastore, 1) := by decide +kernel
theorem dX4_set_46 : decode cX4_set 46 = .ok (.aload_n 0, 1) := by decide +kernel
theorem dX4_set_47 : decode cX4_set 47 = .ok (.getfield 15, 3) := by decide +kernel
theorem dX4_set_50 : decode cX4_set 50 = .ok (.iload 5, 2) := by decide +kernel
theorem dX4_set_52 : decode cX4_set 52 = .ok (.aload 4, 2) := by decide +kernel
theorem dX4_set_54 : decode cX4_set 54 = .ok (.bipush 122, 2) := by decide +kernel
theorem dX4_set_56 : decode cX4_set 56 = .ok (.aload_n 0, 1) := by decide +kernel
theorem dX4_set_57 : decode cX4_set 57 = .ok (.getfield 31, 3) := by decide +kernel
theorem dX4_set_60 : decode cX4_set 60 = .ok (.sipush (-3000), 3) := by decide +kernel
theorem dX4_set_63 : decode cX4_set 63 = .ok (.sipush 3000, 3) := by decide +kernel
theorem dX4_set_66 : decode cX4_set 66 = .ok (.invokevirtual 73, 3) := by decide +kernel
theorem dX4_set_69 : decode cX4_set 69 = .ok (.iastore, 1) := by decide +kernel
theorem dX4_set_70 : decode cX4_set 70 = .ok (.aload_n 0, 1) := by decide +kernel
theorem dX4_set_71 : decode cX4_set 71 = .ok (.getfield 21, 3) := by decide +kernel
theorem dX4_set_74 : decode cX4_set 74 = .ok (.iload 5, 2) := by decide +kernel
theorem dX4_set_76 : decode cX4_set 76 = .ok (.iconst 0, 1) := by decide +kernel
theorem dX4_set_77 : decode cX4_set 77 = .ok (.bastore, 1) := by decide +kernel
theorem dX4_set_78 : decode cX4_set 78 = .ok (.return_, 1) := by decide +kernel
theorem dX4_standAt_0 : decode cX4_standAt 0 = .ok (.aload_n 0, 1) := by decide +kernel
theorem dX4_standAt_1 : decode cX4_standAt 1 = .ok (.getfield 31, 3) := by decide +kernel
theorem dX4_standAt_4 : decode cX4_standAt 4 = .ok (.iconst 5, 1) := by decide +kernel
theorem dX4_standAt_5 : decode cX4_standAt 5 = .ok (.iload_n 1, 1) := by decide +kernel
theorem dX4_standAt_6 : decode cX4_standAt 6 = .ok (.iastore, 1) := by decide +kernel
theorem dX4_standAt_7 : decode cX4_standAt 7 = .ok (.aload_n 0, 1) := by decide +kernel
theorem dX4_standAt_8 : decode cX4_standAt 8 = .ok (.getfield 31, 3) := by decide +kernel
theorem dX4_standAt_11 : decode cX4_standAt 11 = .ok (.bipush 18, 2) := by decide +kernel
theorem dX4_standAt_13 : decode cX4_standAt 13 = .ok (.iload_n 2, 1) := by decide +kernel
theorem dX4_standAt_14 : decode cX4_standAt 14 = .ok (.iastore, 1) := by decide +kernel
theorem dX4_standAt_15 : decode cX4_standAt 15 = .ok (.aload_n 0, 1) := by decide +kernel
theorem dX4_standAt_16 : decode cX4_standAt 16 = .ok (.getfield 31, 3) := by decide +kernel
theorem dX4_standAt_19 : decode cX4_standAt 19 = .ok (.iconst 3, 1) := by decide +kernel
theorem dX4_standAt_20 : decode cX4_standAt 20 = .ok (.iload_n 3, 1) := by decide +kernel
theorem dX4_standAt_21 : decode cX4_standAt 21 = .ok (.iastore, 1) := by decide +kernel
theorem dX4_standAt_22 : decode cX4_standAt 22 = .ok (.aload_n 0, 1) := by decide +kernel
theorem dX4_standAt_23 : decode cX4_standAt 23 = .ok (.getfield 31, 3) := by decide +kernel
theorem dX4_standAt_26 : decode cX4_standAt 26 = .ok (.bipush 13, 2) := by decide +kernel
theorem dX4_standAt_28 : decode cX4_standAt 28 = .ok (.aload_n 0, 1) := by decide +kernel
theorem dX4_standAt_29 : decode cX4_standAt 29 = .ok (.getfield 38, 3) := by decide +kernel
theorem dX4_standAt_32 : decode cX4_standAt 32 = .ok (.iastore, 1) := by decide +kernel
theorem dX4_standAt_33 : decode cX4_standAt 33 = .ok (.aload_n 0, 1) := by decide +kernel
theorem dX4_standAt_34 : decode cX4_standAt 34 = .ok (.getfield 31, 3) := by decide +kernel
theorem dX4_standAt_37 : decode cX4_standAt 37 = .ok (.iconst 2, 1) := by decide +kernel
theorem dX4_standAt_38 : decode cX4_standAt 38 = .ok (.iload_n 1, 1) := by decide +kernel
theorem dX4_standAt_39 : decode cX4_standAt 39 = .ok (.aload_n 0, 1) := by decide +kernel
theorem dX4_standAt_40 : decode cX4_standAt 40 = .ok (.getfield 38, 3) := by decide +kernel
theorem dX4_standAt_43 : decode cX4_standAt 43 = .ok (.iconst 1, 1) := by decide +kernel
theorem dX4_standAt_44 : decode cX4_standAt 44 = .ok (.isub, 1) := by decide +kernel
theorem dX4_standAt_45 : decode cX4_standAt 45 = .ok (.iload_n 1, 1) := by decide +kernel
theorem dX4_standAt_46 : decode cX4_standAt 46 = .ok (.isub, 1) := by decide +kernel
theorem dX4_standAt_47 : decode cX4_standAt 47 = .ok (.invokestatic 79, 3) := by decide +kernel
theorem dX4_standAt_50 : decode cX4_standAt 50 = .ok (.iastore, 1) := by decide +kernel
theorem dX4_standAt_51 : decode cX4_standAt 51 = .ok (.aload_n 0, 1) := by decide +kernel
theorem dX4_standAt_52 : decode cX4_standAt 52 = .ok (.getfield 31, 3) := by decide +kernel
theorem dX4_standAt_55 : decode cX4_standAt 55 = .ok (.bipush 10, 2) := by decide +kernel
theorem dX4_standAt_57 : decode cX4_standAt 57 = .ok (.aload_n 0, 1) := by decide +kernel
theorem dX4_standAt_58 : decode cX4_standAt 58 = .ok (.getfield 45, 3) := by decide +kernel
theorem dX4_standAt_61 : decode cX4_standAt 61 = .ok (.iastore, 1) := by decide +kernel
theorem dX4_standAt_62 : decode cX4_standAt 62 = .ok (.return_, 1) := by decide +kernel
theorem dX4_cutAway_0 : decode cX4_cutAway 0 = .ok (.aload_n 0, 1) := by decide +kernel
theorem dX4_cutAway_1 : decode cX4_cutAway 1 = .ok (.iload_n 1, 1) := by decide +kernel
theorem dX4_cutAway_2 : decode cX4_cutAway 2 = .ok (.putfield 49, 3) := by decide +kernel
theorem dX4_cutAway_5 : decode cX4_cutAway 5 = .ok (.aload_n 0, 1) := by decide +kernel
theorem dX4_cutAway_6 : decode cX4_cutAway 6 = .ok (.invokevirtual 62, 3) := by decide +kernel
theorem dX4_cutAway_9 : decode cX4_cutAway 9 = .ok (.return_, 1) := by decide +kernel
theorem dX4_touchAll_0 : decode cX4_touchAll 0 = .ok (.iconst 0, 1) := by decide +kernel
theorem dX4_touchAll_1 : decode cX4_touchAll 1 = .ok (.istore_n 1, 1) := by decide +kernel
theorem dX4_touchAll_2 : decode cX4_touchAll 2 = .ok (.iload_n 1, 1) := by decide +kernel
theorem dX4_touchAll_3 : decode cX4_touchAll 3 = .ok (.bipush 8, 2) := by decide +kernel
theorem dX4_touchAll_5 : decode cX4_touchAll 5 = .ok (.if_icmp .ge 19, 3) := by decide +kernel
theorem dX4_touchAll_8 : decode cX4_touchAll 8 = .ok (.aload_n 0, 1) := by decide +kernel
theorem dX4_touchAll_9 : decode cX4_touchAll 9 = .ok (.getfield 28, 3) := by decide +kernel
theorem dX4_touchAll_12 : decode cX4_touchAll 12 = .ok (.iload_n 1, 1) := by decide +kernel
theorem dX4_touchAll_13 : decode cX4_touchAll 13 = .ok (.dup2, 1) := by decide +kernel
theorem dX4_touchAll_14 : decode cX4_touchAll 14 = .ok (.iaload, 1) := by decide +kernel
theorem dX4_touchAll_15 : decode cX4_touchAll 15 = .ok (.iconst 1, 1) := by decide +kernel
theorem dX4_touchAll_16 : decode cX4_touchAll 16 = .ok (.iadd, 1) := by decide +kernel
theorem dX4_touchAll_17 : decode cX4_touchAll 17 = .ok (.iastore, 1) := by decide +kernel
theorem dX4_touchAll_18 : decode cX4_touchAll 18 = .ok (.iinc 1 1, 3) := by decide +kernel
theorem dX4_touchAll_21 : decode cX4_touchAll 21 = .ok (.goto (-19), 3) := by decide +kernel
theorem dX4_touchAll_24 : decode cX4_touchAll 24 = .ok (.return_, 1) := by decide +kernel
theorem dX4_left_0 : decode cX4_left 0 = .ok (.iconst 0, 1) := by decide +kernel
theorem dX4_left_1 : decode cX4_left 1 = .ok (.istore_n 1, 1) := by decide +kernel
theorem dX4_left_2 : decode cX4_left 2 = .ok (.iconst 0, 1) := by decide +kernel
theorem dX4_left_3 : decode cX4_left 3 = .ok (.istore_n 2, 1) := by decide +kernel
theorem dX4_left_4 : decode cX4_left 4 = .ok (.iload_n 2, 1) := by decide +kernel
theorem dX4_left_5 : decode cX4_left 5 = .ok (.aload_n 0, 1) := by decide +kernel
theorem dX4_left_6 : decode cX4_left 6 = .ok (.getfield 38, 3) := by decide +kernel
theorem dX4_left_9 : decode cX4_left 9 = .ok (.if_icmp .ge 73, 3) := by decide +kernel
theorem dX4_left_12 : decode cX4_left 12 = .ok (.iconst 0, 1) := by decide +kernel
theorem dX4_left_13 : decode cX4_left 13 = .ok (.istore_n 3, 1) := by decide +kernel
theorem dX4_left_14 : decode cX4_left 14 = .ok (.iload_n 3, 1) := by decide +kernel
theorem dX4_left_15 : decode cX4_left 15 = .ok (.aload_n 0, 1) := by decide +kernel
theorem dX4_left_16 : decode cX4_left 16 = .ok (.getfield 45, 3) := by decide +kernel
theorem dX4_left_19 : decode cX4_left 19 = .ok (.if_icmp .ge 57, 3) := by decide +kernel
theorem dX4_left_22 : decode cX4_left 22 = .ok (.iconst 0, 1) := by decide +kernel
theorem dX4_left_23 : decode cX4_left 23 = .ok (.istore 4, 2) := by decide +kernel
theorem dX4_left_25 : decode cX4_left 25 = .ok (.iload 4, 2) := by decide +kernel
theorem dX4_left_27 : decode cX4_left 27 = .ok (.iconst 2, 1) := by decide +kernel
theorem dX4_left_28 : decode cX4_left 28 = .ok (.if_icmp .ge 42, 3) := by decide +kernel
theorem dX4_left_31 : decode cX4_left 31 = .ok (.aload_n 0, 1) := by decide +kernel
theorem dX4_left_32 : decode cX4_left 32 = .ok (.iload_n 2, 1) := by decide +kernel
theorem dX4_left_33 : decode cX4_left 33 = .ok (.iload_n 3, 1) := by decide +kernel
theorem dX4_left_34 : decode cX4_left 34 = .ok (.iload 4, 2) := by decide +kernel
theorem dX4_left_36 : decode cX4_left 36 = .ok (.invokevirtual 65, 3) := by decide +kernel
theorem dX4_left_39 : decode cX4_left 39 = .ok (.istore 5, 2) := by decide +kernel
theorem dX4_left_41 : decode cX4_left 41 = .ok (.iload_n 1, 1) := by decide +kernel
theorem dX4_left_42 : decode cX4_left 42 = .ok (.iload 5, 2) := by decide +kernel
theorem dX4_left_44 : decode cX4_left 44 = .ok (.ifCond .lt 13, 3) := by decide +kernel
theorem dX4_left_47 : decode cX4_left 47 = .ok (.aload_n 0, 1) := by decide +kernel
theorem dX4_left_48 : decode cX4_left 48 = .ok (.getfield 21, 3) := by decide +kernel
theorem dX4_left_51 : decode cX4_left 51 = .ok (.iload 5, 2) := by decide +kernel
theorem dX4_left_53 : decode cX4_left 53 = .ok (.baload, 1) := by decide +kernel
theorem dX4_left_54 : decode cX4_left 54 = .ok (.ifCond .eq 7, 3) := by decide +kernel
theorem dX4_left_57 : decode cX4_left 57 = .ok (.iconst 0, 1) := by decide +kernel
theorem dX4_left_58 : decode cX4_left 58 = .ok (.goto 4, 3) := by decide +kernel
theorem dX4_left_61 : decode cX4_left 61 = .ok (.iconst 1, 1) := by decide +kernel
theorem dX4_left_62 : decode cX4_left 62 = .ok (.iadd, 1) := by decide +kernel
theorem dX4_left_63 : decode cX4_left 63 = .ok (.istore_n 1, 1) := by decide +kernel
theorem dX4_left_64 : decode cX4_left 64 = .ok (.iinc 4 1, 3) := by decide +kernel
theorem dX4_left_67 : decode cX4_left 67 = .ok (.goto (-42), 3) := by decide +kernel
theorem dX4_left_70 : decode cX4_left 70 = .ok (.iinc 3 1, 3) := by decide +kernel
theorem dX4_left_73 : decode cX4_left 73 = .ok (.goto (-59), 3) := by decide +kernel
theorem dX4_left_76 : decode cX4_left 76 = .ok (.iinc 2 1, 3) := by decide +kernel
theorem dX4_left_79 : decode cX4_left 79 = .ok (.goto (-75), 3) := by decide +kernel
theorem dX4_left_82 : decode cX4_left 82 = .ok (.iload_n 1, 1) := by decide +kernel
theorem dX4_left_83 : decode cX4_left 83 = .ok (.ireturn, 1) := by decide +kernel
theorem dX5_init_0 : decode cX5_init 0 = .ok (.aload_n 0, 1) := by decide +kernel
theorem dX5_init_1 : decode cX5_init 1 = .ok (.invokespecial 3, 3) := by decide +kernel
theorem dX5_init_4 : decode cX5_init 4 = .ok (.aload_n 0, 1) := by decide +kernel
theorem dX5_init_5 : decode cX5_init 5 = .ok (.bipush 100, 2) := by decide +kernel
theorem dX5_init_7 : decode cX5_init 7 = .ok (.newarray .int, 2) := by decide +kernel
theorem dX5_init_9 : decode cX5_init 9 = .ok (.putfield 9, 3) := by decide +kernel
theorem dX5_init_12 : decode cX5_init 12 = .ok (.aload_n 0, 1) := by decide +kernel
theorem dX5_init_13 : decode cX5_init 13 = .ok (.aload_n 1, 1) := by decide +kernel
theorem dX5_init_14 : decode cX5_init 14 = .ok (.putfield 15, 3) := by decide +kernel
theorem dX5_init_17 : decode cX5_init 17 = .ok (.return_, 1) := by decide +kernel
theorem dX6_init_0 : decode cX6_init 0 = .ok (.aload_n 0, 1) := by decide +kernel
theorem dX6_init_1 : decode cX6_init 1 = .ok (.invokespecial 1, 3) := by decide +kernel
theorem dX6_init_4 : decode cX6_init 4 = .ok (.aload_n 0, 1) := by decide +kernel
theorem dX6_init_5 : decode cX6_init 5 = .ok (.bipush 72, 2) := by decide +kernel
theorem dX6_init_7 : decode cX6_init 7 = .ok (.newarray .int, 2) := by decide +kernel
theorem dX6_init_9 : decode cX6_init 9 = .ok (.putfield 9, 3) := by decide +kernel
theorem dX6_init_12 : decode cX6_init 12 = .ok (.return_, 1) := by decide +kernel
theorem dX6_put_0 : decode cX6_put 0 = .ok (.aload_n 0, 1) := by decide +kernel
theorem dX6_put_1 : decode cX6_put 1 = .ok (.getfield 9, 3) := by decide +kernel
theorem dX6_put_4 : decode cX6_put 4 = .ok (.iload_n 2, 1) := by decide +kernel
theorem dX6_put_5 : decode cX6_put 5 = .ok (.bipush 12, 2) := by decide +kernel
theorem dX6_put_7 : decode cX6_put 7 = .ok (.imul, 1) := by decide +kernel
theorem dX6_put_8 : decode cX6_put 8 = .ok (.iload_n 1, 1) := by decide +kernel
theorem dX6_put_9 : decode cX6_put 9 = .ok (.iadd, 1) := by decide +kernel
theorem dX6_put_10 : decode cX6_put 10 = .ok (.iload_n 3, 1) := by decide +kernel
theorem dX6_put_11 : decode cX6_put 11 = .ok (.iastore, 1) := by decide +kernel
theorem dX6_put_12 : decode cX6_put 12 = .ok (.return_, 1) := by decide +kernel
theorem dX6_seek_0 : decode cX6_seek 0 = .ok (.aload_n 0, 1) := by decide +kernel
theorem dX6_seek_1 : decode cX6_seek 1 = .ok (.iconst (-1), 1) := by decide +kernel
theorem dX6_seek_2 : decode cX6_seek 2 = .ok (.putfield 13, 3) := by decide +kernel
theorem dX6_seek_5 : decode cX6_seek 5 = .ok (.aload_n 0, 1) := by decide +kernel
theorem dX6_seek_6 : decode cX6_seek 6 = .ok (.iconst 0, 1) := by decide +kernel
theorem dX6_seek_7 : decode cX6_seek 7 = .ok (.putfield 17, 3) := by decide +kernel
theorem dX6_seek_10 : decode cX6_seek 10 = .ok (.aload_n 0, 1) := by decide +kernel
theorem dX6_seek_11 : decode cX6_seek 11 = .ok (.iconst 0, 1) := by decide +kernel
theorem dX6_seek_12 : decode cX6_seek 12 = .ok (.putfield 20, 3) := by decide +kernel
theorem dX6_seek_15 : decode cX6_seek 15 = .ok (.iconst 0, 1) := by decide +kernel
theorem dX6_seek_16 : decode cX6_seek 16 = .ok (.istore_n 3, 1) := by decide +kernel
theorem dX6_seek_17 : decode cX6_seek 17 = .ok (.iload_n 3, 1) := by decide +kernel
theorem dX6_seek_18 : decode cX6_seek 18 = .ok (.iload_n 2, 1) := by decide +kernel
theorem dX6_seek_19 : decode cX6_seek 19 = .ok (.iadd, 1) := by decide +kernel
theorem dX6_seek_20 : decode cX6_seek 20 = .ok (.bipush 6, 2) := by decide +kernel
theorem dX6_seek_22 : decode cX6_seek 22 = .ok (.if_icmp .gt 43, 3) := by decide +kernel
theorem dX6_seek_25 : decode cX6_seek 25 = .ok (.iconst 0, 1) := by decide +kernel
theorem dX6_seek_26 : decode cX6_seek 26 = .ok (.istore 4, 2) := by decide +kernel
theorem dX6_seek_28 : decode cX6_seek 28 = .ok (.iload 4, 2) := by decide +kernel
theorem dX6_seek_30 : decode cX6_seek 30 = .ok (.iload_n 1, 1) := by decide +kernel
theorem dX6_seek_31 : decode cX6_seek 31 = .ok (.iadd, 1) := by decide +kernel
theorem dX6_seek_32 : decode cX6_seek 32 = .ok (.bipush 12, 2) := by decide +kernel
theorem dX6_seek_34 : decode cX6_seek 34 = .ok (.if_icmp .gt 25, 3) := by decide +kernel
theorem dX6_seek_37 : decode cX6_seek 37 = .ok (.aload_n 0, 1) := by decide +kernel
theorem dX6_seek_38 : decode cX6_seek 38 = .ok (.iload 4, 2) := by decide +kernel
theorem dX6_seek_40 : decode cX6_seek 40 = .ok (.iload_n 3, 1) := by decide +kernel
theorem dX6_seek_41 : decode cX6_seek 41 = .ok (.aload_n 0, 1) := by decide +kernel
theorem dX6_seek_42 : decode cX6_seek 42 = .ok (.iload 4, 2) := by decide +kernel
theorem dX6_seek_44 : decode cX6_seek 44 = .ok (.iload_n 3, 1) := by decide +kernel
theorem dX6_seek_45 : decode cX6_seek 45 = .ok (.iload_n 1, 1) := by decide +kernel
theorem dX6_seek_46 : decode cX6_seek 46 = .ok (.iload_n 2, 1) := by decide +kernel
theorem dX6_seek_47 : decode cX6_seek 47 = .ok (.invokevirtual 23, 3) := by decide +kernel
theorem dX6_seek_50 : decode cX6_seek 50 = .ok (.invokevirtual 27, 3) := by decide +kernel
theorem dX6_seek_53 : decode cX6_seek 53 = .ok (.iinc 4 1, 3) := by decide +kernel
theorem dX6_seek_56 : decode cX6_seek 56 = .ok (.goto (-28), 3) := by decide +kernel
theorem dX6_seek_59 : decode cX6_seek 59 = .ok (.iinc 3 1, 3) := by decide +kernel
theorem dX6_seek_62 : decode cX6_seek 62 = .ok (.goto (-45), 3) := by decide +kernel
theorem dX6_seek_65 : decode cX6_seek 65 = .ok (.return_, 1) := by decide +kernel
theorem dX6_weigh_0 : decode cX6_weigh 0 = .ok (.aload_n 0, 1) := by decide +kernel
theorem dX6_weigh_1 : decode cX6_weigh 1 = .ok (.dup, 1) := by decide +kernel
theorem dX6_weigh_2 : decode cX6_weigh 2 = .ok (.getfield 20, 3) := by decide +kernel
theorem dX6_weigh_5 : decode cX6_weigh 5 = .ok (.iconst 1, 1) := by decide +kernel
theorem dX6_weigh_6 : decode cX6_weigh 6 = .ok (.iadd, 1) := by decide +kernel
theorem dX6_weigh_7 : decode cX6_weigh 7 = .ok (.putfield 20, 3) := by decide +kernel
theorem dX6_weigh_10 : decode cX6_weigh 10 = .ok (.iload_n 3, 1) := by decide +kernel
theorem dX6_weigh_11 : decode cX6_weigh 11 = .ok (.aload_n 0, 1) := by decide +kernel
theorem dX6_weigh_12 : decode cX6_weigh 12 = .ok (.getfield 13, 3) := by decide +kernel
theorem dX6_weigh_15 : decode cX6_weigh 15 = .ok (.if_icmp .le 23, 3) := by decide +kernel
theorem dX6_weigh_18 : decode cX6_weigh 18 = .ok (.aload_n 0, 1) := by decide +kernel
theorem dX6_weigh_19 : decode cX6_weigh 19 = .ok (.iload_n 3, 1) := by decide +kernel
theorem dX6_weigh_20 : decode cX6_weigh 20 = .ok (.putfield 13, 3) := by decide +kernel
theorem dX6_weigh_23 : decode cX6_weigh 23 = .ok (.aload_n 0, 1) := by decide +kernel
theorem dX6_weigh_24 : decode cX6_weigh 24 = .ok (.iload_n 1, 1) := by decide +kernel
theorem dX6_weigh_25 : decode cX6_weigh 25 = .ok (.putfield 31, 3) := by decide +kernel
theorem dX6_weigh_28 : decode cX6_weigh 28 = .ok (.aload_n 0, 1) := by decide +kernel
theorem dX6_weigh_29 : decode cX6_weigh 29 = .ok (.iload_n 2, 1) := by decide +kernel
theorem dX6_weigh_30 : decode cX6_weigh 30 = .ok (.putfield 34, 3) := by decide +kernel
theorem dX6_weigh_33 : decode cX6_weigh 33 = .ok (.aload_n 0, 1) := by decide +kernel
theorem dX6_weigh_34 : decode cX6_weigh 34 = .ok (.iconst 0, 1) := by decide +kernel
theorem dX6_weigh_35 : decode cX6_weigh 35 = .ok (.putfield 17, 3) := by decide +kernel
theorem dX6_weigh_38 : decode cX6_weigh 38 = .ok (.aload_n 0, 1) := by decide +kernel
theorem dX6_weigh_39 : decode cX6_weigh 39 = .ok (.dup, 1) := by decide +kernel
theorem dX6_weigh_40 : decode cX6_weigh 40 = .ok (.getfield 17, 3) := by decide +kernel
theorem dX6_weigh_43 : decode cX6_weigh 43 = .ok (.iload_n 3, 1) := by decide +kernel
theorem dX6_weigh_44 : decode cX6_weigh 44 = .ok (.aload_n 0, 1) := by decide +kernel
theorem dX6_weigh_45 : decode cX6_weigh 45 = .ok (.getfield 13, 3) := by decide +kernel
theorem dX6_weigh_48 : decode cX6_weigh 48 = .ok (.if_icmp .ne 7, 3) := by decide +kernel
theorem dX6_weigh_51 : decode cX6_weigh 51 = .ok (.iconst 1, 1) := by decide +kernel
theorem dX6_weigh_52 : decode cX6_weigh 52 = .ok (.goto 4, 3) := by decide +kernel
theorem dX6_weigh_55 : decode cX6_weigh 55 = .ok (.iconst 0, 1) := by decide +kernel
theorem dX6_weigh_56 : decode cX6_weigh 56 = .ok (.iadd, 1) := by decide +kernel
theorem dX6_weigh_57 : decode cX6_weigh 57 = .ok (.putfield 17, 3) := by decide +kernel
theorem dX6_weigh_60 : decode cX6_weigh 60 = .ok (.return_, 1) := by decide +kernel
theorem dX6_amount_0 : decode cX6_amount 0 = .ok (.iconst 0, 1) := by decide +kernel
theorem dX6_amount_1 : decode cX6_amount 1 = .ok (.istore 5, 2) := by decide +kernel
theorem dX6_amount_3 : decode cX6_amount 3 = .ok (.iload_n 2, 1) := by decide +kernel
theorem dX6_amount_4 : decode cX6_amount 4 = .ok (.istore 6, 2) := by decide +kernel
theorem dX6_amount_6 : decode cX6_amount 6 = .ok (.iload 6, 2) := by decide +kernel
theorem dX6_amount_8 : decode cX6_amount 8 = .ok (.iload_n 2, 1) := by decide +kernel
theorem dX6_amount_9 : decode cX6_amount 9 = .ok (.iload 4, 2) := by decide +kernel
theorem dX6_amount_11 : decode cX6_amount 11 = .ok (.iadd, 1) := by decide +kernel
theorem dX6_amount_12 : decode cX6_amount 12 = .ok (.if_icmp .ge 44, 3) := by decide +kernel
theorem dX6_amount_15 : decode cX6_amount 15 = .ok (.iload_n 1, 1) := by decide +kernel
theorem dX6_amount_16 : decode cX6_amount 16 = .ok (.istore 7, 2) := by decide +kernel
theorem dX6_amount_18 : decode cX6_amount 18 = .ok (.iload 7, 2) := by decide +kernel
theorem dX6_amount_20 : decode cX6_amount 20 = .ok (.iload_n 1, 1) := by decide +kernel
theorem dX6_amount_21 : decode cX6_amount 21 = .ok (.iload_n 3, 1) := by decide +kernel
theorem dX6_amount_22 : decode cX6_amount 22 = .ok (.iadd, 1) := by decide +kernel
theorem dX6_amount_23 : decode cX6_amount 23 = .ok (.if_icmp .ge 27, 3) := by decide +kernel
theorem dX6_amount_26 : decode cX6_amount 26 = .ok (.iload 5, 2) := by decide +kernel
theorem dX6_amount_28 : decode cX6_amount 28 = .ok (.aload_n 0, 1) := by decide +kernel
theorem dX6_amount_29 : decode cX6_amount 29 = .ok (.getfield 9, 3) := by decide +kernel
theorem dX6_amount_32 : decode cX6_amount 32 = .ok (.iload 6, 2) := by decide +kernel
theorem dX6_amount_34 : decode cX6_amount 34 = .ok (.bipush 12, 2) := by decide +kernel
theorem dX6_amount_36 : decode cX6_amount 36 = .ok (.imul, 1) := by decide +kernel
theorem dX6_amount_37 : decode cX6_amount 37 = .ok (.iload 7, 2) := by decide +kernel
theorem dX6_amount_39 : decode cX6_amount 39 = .ok (.iadd, 1) := by decide +kernel
theorem dX6_amount_40 : decode cX6_amount 40 = .ok (.iaload, 1) := by decide +kernel
theorem dX6_amount_41 : decode cX6_amount 41 = .ok (.iadd, 1) := by decide +kernel
theorem dX6_amount_42 : decode cX6_amount 42 = .ok (.istore 5, 2) := by decide +kernel
theorem dX6_amount_44 : decode cX6_amount 44 = .ok (.iinc 7 1, 3) := by decide +kernel
theorem dX6_amount_47 : decode cX6_amount 47 = .ok (.goto (-29), 3) := by decide +kernel
theorem dX6_amount_50 : decode cX6_amount 50 = .ok (.iinc 6 1, 3) := by decide +kernel
theorem dX6_amount_53 : decode cX6_amount 53 = .ok (.goto (-47), 3) := by decide +kernel
theorem dX6_amount_56 : decode cX6_amount 56 = .ok (.iload 5, 2) := by decide +kernel
theorem dX6_amount_58 : decode cX6_amount 58 = .ok (.ireturn, 1) := by decide +kernel
theorem dX7_init_0 : decode cX7_init 0 = .ok (.aload_n 0, 1) := by decide +kernel
theorem dX7_init_1 : decode cX7_init 1 = .ok (.invokespecial 3, 3) := by decide +kernel
theorem dX7_init_4 : decode cX7_init 4 = .ok (.aload_n 0, 1) := by decide +kernel
theorem dX7_init_5 : decode cX7_init 5 = .ok (.bipush 36, 2) := by decide +kernel
theorem dX7_init_7 : decode cX7_init 7 = .ok (.newarray .int, 2) := by decide +kernel
theorem dX7_init_9 : decode cX7_init 9 = .ok (.putfield 11, 3) := by decide +kernel
theorem dX7_init_12 : decode cX7_init 12 = .ok (.aload_n 0, 1) := by decide +kernel
theorem dX7_init_13 : decode cX7_init 13 = .ok (.bipush 6, 2) := by decide +kernel
theorem dX7_init_15 : decode cX7_init 15 = .ok (.newarray .boolean, 2) := by decide +kernel
theorem dX7_init_17 : decode cX7_init 17 = .ok (.putfield 15, 3) := by decide +kernel
theorem dX7_init_20 : decode cX7_init 20 = .ok (.aload_n 0, 1) := by decide +kernel
theorem dX7_init_21 : decode cX7_init 21 = .ok (.bipush 6, 2) := by decide +kernel
theorem dX7_init_23 : decode cX7_init 23 = .ok (.newarray .int, 2) := by decide +kernel
theorem dX7_init_25 : decode cX7_init 25 = .ok (.dup, 1) := by decide +kernel
theorem dX7_init_26 : decode cX7_init 26 = .ok (.iconst 0, 1) := by decide +kernel
theorem dX7_init_27 : decode cX7_init 27 = .ok (.iconst (-1), 1) := by decide +kernel
theorem dX7_init_28 : decode cX7_init 28 = .ok (.iastore, 1) := by decide +kernel
theorem dX7_init_29 : decode cX7_init 29 = .ok (.dup, 1) := by decide +kernel
theorem dX7_init_30 : decode cX7_init 30 = .ok (.iconst 1, 1) := by decide +kernel
theorem dX7_init_31 : decode cX7_init 31 = .ok (.iconst (-1), 1) := by decide +kernel
theorem dX7_init_32 : decode cX7_init 32 = .ok (.iastore, 1) := by decide +kernel
theorem dX7_init_33 : decode cX7_init 33 = .ok (.dup, 1) := by decide +kernel
theorem dX7_init_34 : decode cX7_init 34 = .ok (.iconst 2, 1) := by decide +kernel
theorem dX7_init_35 : decode cX7_init 35 = .ok (.iconst (-1), 1) := by decide +kernel
theorem dX7_init_36 : decode cX7_init 36 = .ok (.iastore, 1) := by decide +kernel
theorem dX7_init_37 : decode cX7_init 37 = .ok (.dup, 1) := by decide +kernel
theorem dX7_init_38 : decode cX7_init 38 = .ok (.iconst 3, 1) := by decide +kernel
theorem dX7_init_39 : decode cX7_init 39 = .ok (.iconst (-1), 1) := by decide +kernel
theorem dX7_init_40 : decode cX7_init 40 = .ok (.iastore, 1) := by decide +kernel
theorem dX7_init_41 : decode cX7_init 41 = .ok (.dup, 1) := by decide +kernel
theorem dX7_init_42 : decode cX7_init 42 = .ok (.iconst 4, 1) := by decide +kernel
theorem dX7_init_43 : decode cX7_init 43 = .ok (.iconst (-1), 1) := by decide +kernel
theorem dX7_init_44 : decode cX7_init 44 = .ok (.iastore, 1) := by decide +kernel
theorem dX7_init_45 : decode cX7_init 45 = .ok (.dup, 1) := by decide +kernel
theorem dX7_init_46 : decode cX7_init 46 = .ok (.iconst 5, 1) := by decide +kernel
theorem dX7_init_47 : decode cX7_init 47 = .ok (.iconst (-1), 1) := by decide +kernel
theorem dX7_init_48 : decode cX7_init 48 = .ok (.iastore, 1) := by decide +kernel
theorem dX7_init_49 : decode cX7_init 49 = .ok (.putfield 19, 3) := by decide +kernel
theorem dX7_init_52 : decode cX7_init 52 = .ok (.return_, 1) := by decide +kernel
theorem dX7_tell_0 : decode cX7_tell 0 = .ok (.aload_n 0, 1) := by decide +kernel
theorem dX7_tell_1 : decode cX7_tell 1 = .ok (.getfield 11, 3) := by decide +kernel
theorem dX7_tell_4 : decode cX7_tell 4 = .ok (.iload_n 1, 1) := by decide +kernel
theorem dX7_tell_5 : decode cX7_tell 5 = .ok (.bipush 6, 2) := by decide +kernel
theorem dX7_tell_7 : decode cX7_tell 7 = .ok (.imul, 1) := by decide +kernel
theorem dX7_tell_8 : decode cX7_tell 8 = .ok (.iload_n 2, 1) := by decide +kernel
theorem dX7_tell_9 : decode cX7_tell 9 = .ok (.iadd, 1) := by decide +kernel
theorem dX7_tell_10 : decode cX7_tell 10 = .ok (.iload_n 3, 1) := by decide +kernel
theorem dX7_tell_11 : decode cX7_tell 11 = .ok (.iastore, 1) := by decide +kernel
theorem dX7_tell_12 : decode cX7_tell 12 = .ok (.aload_n 0, 1) := by decide +kernel
theorem dX7_tell_13 : decode cX7_tell 13 = .ok (.getfield 15, 3) := by decide +kernel
theorem dX7_tell_16 : decode cX7_tell 16 = .ok (.iload_n 1, 1) := by decide +kernel
theorem dX7_tell_17 : decode cX7_tell 17 = .ok (.iconst 1, 1) := by decide +kernel
theorem dX7_tell_18 : decode cX7_tell 18 = .ok (.bastore, 1) := by decide +kernel
theorem dX7_tell_19 : decode cX7_tell 19 = .ok (.return_, 1) := by decide +kernel
theorem dX7_told_0 : decode cX7_told 0 = .ok (.iconst 0, 1) := by decide +kernel
theorem dX7_told_1 : decode cX7_told 1 = .ok (.istore_n 1, 1) := by decide +kernel
theorem dX7_told_2 : decode cX7_told 2 = .ok (.iconst 0, 1) := by decide +kernel
theorem dX7_told_3 : decode cX7_told 3 = .ok (.istore_n 2, 1) := by decide +kernel
theorem dX7_told_4 : decode cX7_told 4 = .ok (.iload_n 2, 1) := by decide +kernel
theorem dX7_told_5 : decode cX7_told 5 = .ok (.bipush 6, 2) := by decide +kernel
theorem dX7_told_7 : decode cX7_told 7 = .ok (.if_icmp .ge 26, 3) := by decide +kernel
theorem dX7_told_10 : decode cX7_told 10 = .ok (.iload_n 1, 1) := by decide +kernel
theorem dX7_told_11 : decode cX7_told 11 = .ok (.aload_n 0, 1) := by decide +kernel
theorem dX7_told_12 : decode cX7_told 12 = .ok (.getfield 15, 3) := by decide +kernel
theorem dX7_told_15 : decode cX7_told 15 = .ok (.iload_n 2, 1) := by decide +kernel
theorem dX7_told_16 : decode cX7_told 16 = .ok (.baload, 1) := by decide +kernel
theorem dX7_told_17 : decode cX7_told 17 = .ok (.ifCond .eq 7, 3) := by decide +kernel
theorem dX7_told_20 : decode cX7_told 20 = .ok (.iconst 1, 1) := by decide +kernel
theorem dX7_told_21 : decode cX7_told 21 = .ok (.goto 4, 3) := by decide +kernel
theorem dX7_told_24 : decode cX7_told 24 = .ok (.iconst 0, 1) := by decide +kernel
theorem dX7_told_25 : decode cX7_told 25 = .ok (.iadd, 1) := by decide +kernel
theorem dX7_told_26 : decode cX7_told 26 = .ok (.istore_n 1, 1) := by decide +kernel
theorem dX7_told_27 : decode cX7_told 27 = .ok (.iinc 2 1, 3) := by decide +kernel
theorem dX7_told_30 : decode cX7_told 30 = .ok (.goto (-26), 3) := by decide +kernel
theorem dX7_told_33 : decode cX7_told 33 = .ok (.iload_n 1, 1) := by decide +kernel
theorem dX7_told_34 : decode cX7_told 34 = .ok (.ireturn, 1) := by decide +kernel
theorem dX7_together_0 : decode cX7_together 0 = .ok (.lconst 0, 1) := by decide +kernel
theorem dX7_together_1 : decode cX7_together 1 = .ok (.lstore_n 1, 1) := by decide +kernel
theorem dX7_together_2 : decode cX7_together 2 = .ok (.iconst 0, 1) := by decide +kernel
theorem dX7_together_3 : decode cX7_together 3 = .ok (.istore_n 3, 1) := by decide +kernel
theorem dX7_together_4 : decode cX7_together 4 = .ok (.iload_n 3, 1) := by decide +kernel
theorem dX7_together_5 : decode cX7_together 5 = .ok (.bipush 6, 2) := by decide +kernel
theorem dX7_together_7 : decode cX7_together 7 = .ok (.if_icmp .ge 30, 3) := by decide +kernel
theorem dX7_together_10 : decode cX7_together 10 = .ok (.lload_n 1, 1) := by decide +kernel
theorem dX7_together_11 : decode cX7_together 11 = .ok (.aload_n 0, 1) := by decide +kernel
theorem dX7_together_12 : decode cX7_together 12 = .ok (.getfield 15, 3) := by decide +kernel
theorem dX7_together_15 : decode cX7_together 15 = .ok (.iload_n 3, 1) := by decide +kernel
theorem dX7_together_16 : decode cX7_together 16 = .ok (.baload, 1) := by decide +kernel
theorem dX7_together_17 : decode cX7_together 17 = .ok (.ifCond .eq 11, 3) := by decide +kernel
theorem dX7_together_20 : decode cX7_together 20 = .ok (.aload_n 0, 1) := by decide +kernel
theorem dX7_together_21 : decode cX7_together 21 = .ok (.iload_n 3, 1) := by decide +kernel
theorem dX7_together_22 : decode cX7_together 22 = .ok (.invokevirtual 22, 3) := by decide +kernel
theorem dX7_together_25 : decode cX7_together 25 = .ok (.goto 4, 3) := by decide +kernel
theorem dX7_together_28 : decode cX7_together 28 = .ok (.lconst 0, 1) := by decide +kernel
theorem dX7_together_29 : decode cX7_together 29 = .ok (.ladd, 1) := by decide +kernel
theorem dX7_together_30 : decode cX7_together 30 = .ok (.lstore_n 1, 1) := by decide +kernel
theorem dX7_together_31 : decode cX7_together 31 = .ok (.iinc 3 1, 3) := by decide +kernel
theorem dX7_together_34 : decode cX7_together 34 = .ok (.goto (-30), 3) := by decide +kernel
theorem dX7_together_37 : decode cX7_together 37 = .ok (.lload_n 1, 1) := by decide +kernel
theorem dX7_together_38 : decode cX7_together 38 = .ok (.lreturn, 1) := by decide +kernel
theorem dX8_init_0 : decode cX8_init 0 = .ok (.aload_n 0, 1) := by decide +kernel
theorem dX8_init_1 : decode cX8_init 1 = .ok (.invokespecial 3, 3) := by decide +kernel
theorem dX8_init_4 : decode cX8_init 4 = .ok (.aload_n 0, 1) := by decide +kernel
theorem dX8_init_5 : decode cX8_init 5 = .ok (.sipush 220, 3) := by decide +kernel
theorem dX8_init_8 : decode cX8_init 8 = .ok (.newarray .byte, 2) := by decide +kernel
theorem dX8_init_10 : decode cX8_init 10 = .ok (.putfield 9, 3) := by decide +kernel
theorem dX8_init_13 : decode cX8_init 13 = .ok (.return_, 1) := by decide +kernel
theorem dX8_hasRoom_0 : decode cX8_hasRoom 0 = .ok (.iload_n 1, 1) := by decide +kernel
theorem dX8_hasRoom_1 : decode cX8_hasRoom 1 = .ok (.aload_n 0, 1) := by decide +kernel
theorem dX8_hasRoom_2 : decode cX8_hasRoom 2 = .ok (.getfield 9, 3) := by decide +kernel
theorem dX8_hasRoom_5 : decode cX8_hasRoom 5 = .ok (.arraylength, 1) := by decide +kernel
theorem dX8_hasRoom_6 : decode cX8_hasRoom 6 = .ok (.aload_n 0, 1) := by decide +kernel
theorem dX8_hasRoom_7 : decode cX8_hasRoom 7 = .ok (.getfield 15, 3) := by decide +kernel
theorem dX8_hasRoom_10 : decode cX8_hasRoom 10 = .ok (.isub, 1) := by decide +kernel
theorem dX8_hasRoom_11 : decode cX8_hasRoom 11 = .ok (.if_icmp .gt 7, 3) := by decide +kernel
theorem dX8_hasRoom_14 : decode cX8_hasRoom 14 = .ok (.iconst 1, 1) := by decide +kernel
theorem dX8_hasRoom_15 : decode cX8_hasRoom 15 = .ok (.goto 4, 3) := by decide +kernel
theorem dX8_hasRoom_18 : decode cX8_hasRoom 18 = .ok (.iconst 0, 1) := by decide +kernel
theorem dX8_hasRoom_19 : decode cX8_hasRoom 19 = .ok (.ireturn, 1) := by decide +kernel
theorem dX8_put_0 : decode cX8_put 0 = .ok (.bipush 24, 2) := by decide +kernel
theorem dX8_put_2 : decode cX8_put 2 = .ok (.istore_n 2, 1) := by decide +kernel
theorem dX8_put_3 : decode cX8_put 3 = .ok (.iload_n 2, 1) := by decide +kernel
theorem dX8_put_4 : decode cX8_put 4 = .ok (.ifCond .lt 44, 3) := by decide +kernel
theorem dX8_put_7 : decode cX8_put 7 = .ok (.aload_n 0, 1) := by decide +kernel
theorem dX8_put_8 : decode cX8_put 8 = .ok (.getfield 15, 3) := by decide +kernel
theorem dX8_put_11 : decode cX8_put 11 = .ok (.aload_n 0, 1) := by decide +kernel
theorem dX8_put_12 : decode cX8_put 12 = .ok (.getfield 9, 3) := by decide +kernel
theorem dX8_put_15 : decode cX8_put 15 = .ok (.arraylength, 1) := by decide +kernel
theorem dX8_put_16 : decode cX8_put 16 = .ok (.if_icmp .ge 32, 3) := by decide +kernel
theorem dX8_put_19 : decode cX8_put 19 = .ok (.aload_n 0, 1) := by decide +kernel
theorem dX8_put_20 : decode cX8_put 20 = .ok (.getfield 9, 3) := by decide +kernel
theorem dX8_put_23 : decode cX8_put 23 = .ok (.aload_n 0, 1) := by decide +kernel
theorem dX8_put_24 : decode cX8_put 24 = .ok (.getfield 15, 3) := by decide +kernel
theorem dX8_put_27 : decode cX8_put 27 = .ok (.iload_n 1, 1) := by decide +kernel
theorem dX8_put_28 : decode cX8_put 28 = .ok (.iload_n 2, 1) := by decide +kernel
theorem dX8_put_29 : decode cX8_put 29 = .ok (.iushr, 1) := by decide +kernel
theorem dX8_put_30 : decode cX8_put 30 = .ok (.i2b, 1) := by decide +kernel
theorem dX8_put_31 : decode cX8_put 31 = .ok (.bastore, 1) := by decide +kernel
theorem dX8_put_32 : decode cX8_put 32 = .ok (.aload_n 0, 1) := by decide +kernel
theorem dX8_put_33 : decode cX8_put 33 = .ok (.dup, 1) := by decide +kernel
theorem dX8_put_34 : decode cX8_put 34 = .ok (.getfield 15, 3) := by decide +kernel
theorem dX8_put_37 : decode cX8_put 37 = .ok (.iconst 1, 1) := by decide +kernel
theorem dX8_put_38 : decode cX8_put 38 = .ok (.iadd, 1) := by decide +kernel
theorem dX8_put_39 : decode cX8_put 39 = .ok (.putfield 15, 3) := by decide +kernel
theorem dX8_put_42 : decode cX8_put 42 = .ok (.iinc 2 (-8), 3) := by decide +kernel
theorem dX8_put_45 : decode cX8_put 45 = .ok (.goto (-42), 3) := by decide +kernel
theorem dX8_put_48 : decode cX8_put 48 = .ok (.return_, 1) := by decide +kernel
theorem dX9_init_0 : decode cX9_init 0 = .ok (.aload_n 0, 1) := by decide +kernel
theorem dX9_init_1 : decode cX9_init 1 = .ok (.invokespecial 3, 3) := by decide +kernel
theorem dX9_init_4 : decode cX9_init 4 = .ok (.aload_n 0, 1) := by decide +kernel
theorem dX9_init_5 : decode cX9_init 5 = .ok (.sipush 200, 3) := by decide +kernel
theorem dX9_init_8 : decode cX9_init 8 = .ok (.newarray .int, 2) := by decide +kernel
theorem dX9_init_10 : decode cX9_init 10 = .ok (.putfield 9, 3) := by decide +kernel
theorem dX9_init_13 : decode cX9_init 13 = .ok (.aload_n 0, 1) := by decide +kernel
theorem dX9_init_14 : decode cX9_init 14 = .ok (.bipush 32, 2) := by decide +kernel
theorem dX9_init_16 : decode cX9_init 16 = .ok (.newarray .int, 2) := by decide +kernel
theorem dX9_init_18 : decode cX9_init 18 = .ok (.putfield 15, 3) := by decide +kernel
theorem dX9_init_21 : decode cX9_init 21 = .ok (.aload_n 0, 1) := by decide +kernel
theorem dX9_init_22 : decode cX9_init 22 = .ok (.bipush 14, 2) := by decide +kernel
theorem dX9_init_24 : decode cX9_init 24 = .ok (.newarray .int, 2) := by decide +kernel
theorem dX9_init_26 : decode cX9_init 26 = .ok (.putfield 18, 3) := by decide +kernel
theorem dX9_init_29 : decode cX9_init 29 = .ok (.aload_n 0, 1) := by decide +kernel
theorem dX9_init_30 : decode cX9_init 30 = .ok (.bipush 14, 2) := by decide +kernel
theorem dX9_init_32 : decode cX9_init 32 = .ok (.newarray .int, 2) := by decide +kernel
theorem dX9_init_34 : decode cX9_init 34 = .ok (.putfield 21, 3) := by decide +kernel
theorem dX9_init_37 : decode cX9_init 37 = .ok (.aload_n 0, 1) := by decide +kernel
theorem dX9_init_38 : decode cX9_init 38 = .ok (.bipush 14, 2) := by decide +kernel
theorem dX9_init_40 : decode cX9_init 40 = .ok (.newarray .int, 2) := by decide +kernel
theorem dX9_init_42 : decode cX9_init 42 = .ok (.putfield 24, 3) := by decide +kernel
theorem dX9_init_45 : decode cX9_init 45 = .ok (.return_, 1) := by decide +kernel
theorem dX9_value_0 : decode cX9_value 0 = .ok (.iconst 0, 1) := by decide +kernel
theorem dX9_value_1 : decode cX9_value 1 = .ok (.istore 5, 2) := by decide +kernel
theorem dX9_value_3 : decode cX9_value 3 = .ok (.iload 5, 2) := by decide +kernel
theorem dX9_value_5 : decode cX9_value 5 = .ok (.aload_n 0, 1) := by decide +kernel
theorem dX9_value_6 : decode cX9_value 6 = .ok (.getfield 31, 3) := by decide +kernel
theorem dX9_value_9 : decode cX9_value 9 = .ok (.if_icmp .ge 54, 3) := by decide +kernel
theorem dX9_value_12 : decode cX9_value 12 = .ok (.aload_n 0, 1) := by decide +kernel
theorem dX9_value_13 : decode cX9_value 13 = .ok (.getfield 18, 3) := by decide +kernel
theorem dX9_value_16 : decode cX9_value 16 = .ok (.iload 5, 2) := by decide +kernel
theorem dX9_value_18 : decode cX9_value 18 = .ok (.iaload, 1) := by decide +kernel
theorem dX9_value_19 : decode cX9_value 19 = .ok (.iload_n 1, 1) := by decide +kernel
theorem dX9_value_20 : decode cX9_value 20 = .ok (.if_icmp .ne 37, 3) := by decide +kernel
theorem dX9_value_23 : decode cX9_value 23 = .ok (.aload_n 0, 1) := by decide +kernel
theorem dX9_value_24 : decode cX9_value 24 = .ok (.aload_n 0, 1) := by decide +kernel
theorem dX9_value_25 : decode cX9_value 25 = .ok (.getfield 24, 3) := by decide +kernel
theorem dX9_value_28 : decode cX9_value 28 = .ok (.iload 5, 2) := by decide +kernel
theorem dX9_value_30 : decode cX9_value 30 = .ok (.iaload, 1) := by decide +kernel
theorem dX9_value_31 : decode cX9_value 31 = .ok (.aload_n 2, 1) := by decide +kernel
theorem dX9_value_32 : decode cX9_value 32 = .ok (.invokevirtual 34, 3) := by decide +kernel
theorem dX9_value_35 : decode cX9_value 35 = .ok (.ifCond .eq 22, 3) := by decide +kernel
theorem dX9_value_38 : decode cX9_value 38 = .ok (.aload_n 0, 1) := by decide +kernel
theorem dX9_value_39 : decode cX9_value 39 = .ok (.aload_n 0, 1) := by decide +kernel
theorem dX9_value_40 : decode cX9_value 40 = .ok (.getfield 21, 3) := by decide +kernel
theorem dX9_value_43 : decode cX9_value 43 = .ok (.iload 5, 2) := by decide +kernel
theorem dX9_value_45 : decode cX9_value 45 = .ok (.iaload, 1) := by decide +kernel
theorem dX9_value_46 : decode cX9_value 46 = .ok (.aload_n 2, 1) := by decide +kernel
theorem dX9_value_47 : decode cX9_value 47 = .ok (.invokevirtual 34, 3) := by decide +kernel
theorem dX9_value_50 : decode cX9_value 50 = .ok (.iload_n 3, 1) := by decide +kernel
theorem dX9_value_51 : decode cX9_value 51 = .ok (.iload 4, 2) := by decide +kernel
theorem dX9_value_53 : decode cX9_value 53 = .ok (.invokestatic 38, 3) := by decide +kernel
theorem dX9_value_56 : decode cX9_value 56 = .ok (.ireturn, 1) := by decide +kernel
theorem dX9_value_57 : decode cX9_value 57 = .ok (.iinc 5 1, 3) := by decide +kernel
theorem dX9_value_60 : decode cX9_value 60 = .ok (.goto (-57), 3) := by decide +kernel
theorem dX9_value_63 : decode cX9_value 63 = .ok (.iconst 0, 1) := by decide +kernel
theorem dX9_value_64 : decode cX9_value 64 = .ok (.ireturn, 1) := by decide +kernel
theorem dX10_init_0 : decode cX10_init 0 = .ok (.aload_n 0, 1) := by decide +kernel
theorem dX10_init_1 : decode cX10_init 1 = .ok (.invokespecial 3, 3) := by decide +kernel
theorem dX10_init_4 : decode cX10_init 4 = .ok (.aload_n 0, 1) := by decide +kernel
theorem dX10_init_5 : decode cX10_init 5 = .ok (.bipush 48, 2) := by decide +kernel
theorem dX10_init_7 : decode cX10_init 7 = .ok (.newarray .int, 2) := by decide +kernel
theorem dX10_init_9 : decode cX10_init 9 = .ok (.putfield 9, 3) := by decide +kernel
theorem dX10_init_12 : decode cX10_init 12 = .ok (.aload_n 0, 1) := by decide +kernel
theorem dX10_init_13 : decode cX10_init 13 = .ok (.aload_n 1, 1) := by decide +kernel
theorem dX10_init_14 : decode cX10_init 14 = .ok (.putfield 15, 3) := by decide +kernel
theorem dX10_init_17 : decode cX10_init 17 = .ok (.return_, 1) := by decide +kernel
theorem dX10_fall_0 : decode cX10_fall 0 = .ok (.aload_n 0, 1) := by decide +kernel
theorem dX10_fall_1 : decode cX10_fall 1 = .ok (.getfield 9, 3) := by decide +kernel
theorem dX10_fall_4 : decode cX10_fall 4 = .ok (.iconst (-1), 1) := by decide +kernel
theorem dX10_fall_5 : decode cX10_fall 5 = .ok (.invokestatic 19, 3) := by decide +kernel
theorem dX10_fall_8 : decode cX10_fall 8 = .ok (.return_, 1) := by decide +kernel
theorem dX11_init_0 : decode cX11_init 0 = .ok (.aload_n 0, 1) := by decide +kernel
theorem dX11_init_1 : decode cX11_init 1 = .ok (.invokespecial 1, 3) := by decide +kernel
theorem dX11_init_4 : decode cX11_init 4 = .ok (.aload_n 0, 1) := by decide +kernel
theorem dX11_init_5 : decode cX11_init 5 = .ok (.new 7, 3) := by decide +kernel
theorem dX11_init_8 : decode cX11_init 8 = .ok (.dup, 1) := by decide +kernel
theorem dX11_init_9 : decode cX11_init 9 = .ok (.invokespecial 9, 3) := by decide +kernel
theorem dX11_init_12 : decode cX11_init 12 = .ok (.putfield 10, 3) := by decide +kernel
theorem dX11_init_15 : decode cX11_init 15 = .ok (.aload_n 0, 1) := by decide +kernel
theorem dX11_init_16 : decode cX11_init 16 = .ok (.new 16, 3) := by decide +kernel
theorem dX11_init_19 : decode cX11_init 19 = .ok (.dup, 1) := by decide +kernel
theorem dX11_init_20 : decode cX11_init 20 = .ok (.aload_n 0, 1) := by decide +kernel
theorem dX11_init_21 : decode cX11_init 21 = .ok (.getfield 10, 3) := by decide +kernel
theorem dX11_init_24 : decode cX11_init 24 = .ok (.invokespecial 18, 3) := by decide +kernel
theorem dX11_init_27 : decode cX11_init 27 = .ok (.putfield 21, 3) := by decide +kernel
theorem dX11_init_30 : decode cX11_init 30 = .ok (.aload_n 0, 1) := by decide +kernel
theorem dX11_init_31 : decode cX11_init 31 = .ok (.iconst 4, 1) := by decide +kernel
theorem dX11_init_32 : decode cX11_init 32 = .ok (.anewarray 25, 3) := by decide +kernel
theorem dX11_init_35 : decode cX11_init 35 = .ok (.dup, 1) := by decide +kernel
theorem dX11_init_36 : decode cX11_init 36 = .ok (.iconst 0, 1) := by decide +kernel
theorem dX11_init_37 : decode cX11_init 37 = .ok (.new 25, 3) := by decide +kernel
theorem dX11_init_40 : decode cX11_init 40 = .ok (.dup, 1) := by decide +kernel
theorem dX11_init_41 : decode cX11_init 41 = .ok (.invokespecial 27, 3) := by decide +kernel
theorem dX11_init_44 : decode cX11_init 44 = .ok (.aastore, 1) := by decide +kernel
theorem dX11_init_45 : decode cX11_init 45 = .ok (.dup, 1) := by decide +kernel
theorem dX11_init_46 : decode cX11_init 46 = .ok (.iconst 1, 1) := by decide +kernel
theorem dX11_init_47 : decode cX11_init 47 = .ok (.new 25, 3) := by decide +kernel
theorem dX11_init_50 : decode cX11_init 50 = .ok (.dup, 1) := by decide +kernel
theorem dX11_init_51 : decode cX11_init 51 = .ok (.invokespecial 27, 3) := by decide +kernel
theorem dX11_init_54 : decode cX11_init 54 = .ok (.aastore, 1) := by decide +kernel
theorem dX11_init_55 : decode cX11_init 55 = .ok (.dup, 1) := by decide +kernel
theorem dX11_init_56 : decode cX11_init 56 = .ok (.iconst 2, 1) := by decide +kernel
theorem dX11_init_57 : decode cX11_init 57 = .ok (.new 25, 3) := by decide +kernel
theorem dX11_init_60 : decode cX11_init 60 = .ok (.dup, 1) := by decide +kernel
theorem dX11_init_61 : decode cX11_init 61 = .ok (.invokespecial 27, 3) := by decide +kernel
theorem dX11_init_64 : decode cX11_init 64 = .ok (.aastore, 1) := by decide +kernel
theorem dX11_init_65 : decode cX11_init 65 = .ok (.dup, 1) := by decide +kernel
theorem dX11_init_66 : decode cX11_init 66 = .ok (.iconst 3, 1) := by decide +kernel
theorem dX11_init_67 : decode cX11_init 67 = .ok (.new 25, 3) := by decide +kernel
theorem dX11_init_70 : decode cX11_init 70 = .ok (.dup, 1) := by decide +kernel
theorem dX11_init_71 : decode cX11_init 71 = .ok (.invokespecial 27, 3) := by decide +kernel
theorem dX11_init_74 : decode cX11_init 74 = .ok (.aastore, 1) := by decide +kernel
theorem dX11_init_75 : decode cX11_init 75 = .ok (.putfield 28, 3) := by decide +kernel
theorem dX11_init_78 : decode cX11_init 78 = .ok (.aload_n 0, 1) := by decide +kernel
theorem dX11_init_79 : decode cX11_init 79 = .ok (.bipush 26, 2) := by decide +kernel
theorem dX11_init_81 : decode cX11_init 81 = .ok (.newarray .int, 2) := by decide +kernel
theorem dX11_init_83 : decode cX11_init 83 = .ok (.putfield 32, 3) := by decide +kernel
theorem dX11_init_86 : decode cX11_init 86 = .ok (.aload_n 0, 1) := by decide +kernel
theorem dX11_init_87 : decode cX11_init 87 = .ok (.new 36, 3) := by decide +kernel
theorem dX11_init_90 : decode cX11_init 90 = .ok (.dup, 1) := by decide +kernel
theorem dX11_init_91 : decode cX11_init 91 = .ok (.invokespecial 38, 3) := by decide +kernel
theorem dX11_init_94 : decode cX11_init 94 = .ok (.putfield 39, 3) := by decide +kernel
theorem dX11_init_97 : decode cX11_init 97 = .ok (.aload_n 0, 1) := by decide +kernel
theorem dX11_init_98 : decode cX11_init 98 = .ok (.new 43, 3) := by decide +kernel
theorem dX11_init_101 : decode cX11_init 101 = .ok (.dup, 1) := by decide +kernel
theorem dX11_init_102 : decode cX11_init 102 = .ok (.aload_n 0, 1) := by decide +kernel
theorem dX11_init_103 : decode cX11_init 103 = .ok (.getfield 39, 3) := by decide +kernel
theorem dX11_init_106 : decode cX11_init 106 = .ok (.invokespecial 45, 3) := by decide +kernel
theorem dX11_init_109 : decode cX11_init 109 = .ok (.putfield 48, 3) := by decide +kernel
theorem dX11_init_112 : decode cX11_init 112 = .ok (.aload_n 0, 1) := by decide +kernel
theorem dX11_init_113 : decode cX11_init 113 = .ok (.new 52, 3) := by decide +kernel
theorem dX11_init_116 : decode cX11_init 116 = .ok (.dup, 1) := by decide +kernel
theorem dX11_init_117 : decode cX11_init 117 = .ok (.aload_n 0, 1) := by decide +kernel
theorem dX11_init_118 : decode cX11_init 118 = .ok (.getfield 39, 3) := by decide +kernel
theorem dX11_init_121 : decode cX11_init 121 = .ok (.invokespecial 54, 3) := by decide +kernel
theorem dX11_init_124 : decode cX11_init 124 = .ok (.putfield 55, 3) := by decide +kernel
theorem dX11_init_127 : decode cX11_init 127 = .ok (.aload_n 0, 1) := by decide +kernel
theorem dX11_init_128 : decode cX11_init 128 = .ok (.new 59, 3) := by decide +kernel
theorem dX11_init_131 : decode cX11_init 131 = .ok (.dup, 1) := by decide +kernel
theorem dX11_init_132 : decode cX11_init 132 = .ok (.aload_n 0, 1) := by decide +kernel
theorem dX11_init_133 : decode cX11_init 133 = .ok (.getfield 39, 3) := by decide +kernel
theorem dX11_init_136 : decode cX11_init 136 = .ok (.aload_n 0, 1) := by decide +kernel
theorem dX11_init_137 : decode cX11_init 137 = .ok (.getfield 55, 3) := by decide +kernel
theorem dX11_init_140 : decode cX11_init 140 = .ok (.invokespecial 61, 3) := by decide +kernel
theorem dX11_init_143 : decode cX11_init 143 = .ok (.putfield 64, 3) := by decide +kernel
theorem dX11_init_146 : decode cX11_init 146 = .ok (.aload_n 0, 1) := by decide +kernel
theorem dX11_init_147 : decode cX11_init 147 = .ok (.new 68, 3) := by decide +kernel
theorem dX11_init_150 : decode cX11_init 150 = .ok (.dup, 1) := by decide +kernel
theorem dX11_init_151 : decode cX11_init 151 = .ok (.aload_n 0, 1) := by decide +kernel
theorem dX11_init_152 : decode cX11_init 152 = .ok (.getfield 39, 3) := by decide +kernel
theorem dX11_init_155 : decode cX11_init 155 = .ok (.invokespecial 70, 3) := by decide +kernel
theorem dX11_init_158 : decode cX11_init 158 = .ok (.putfield 71, 3) := by decide +kernel
theorem dX11_init_161 : decode cX11_init 161 = .ok (.aload_n 0, 1) := by decide +kernel
theorem dX11_init_162 : decode cX11_init 162 = .ok (.new 75, 3) := by decide +kernel
theorem dX11_init_165 : decode cX11_init 165 = .ok (.dup, 1) := by decide +kernel
theorem dX11_init_166 : decode cX11_init 166 = .ok (.aload_n 0, 1) := by decide +kernel
theorem dX11_init_167 : decode cX11_init 167 = .ok (.getfield 39, 3) := by decide +kernel
theorem dX11_init_170 : decode cX11_init 170 = .ok (.invokespecial 77, 3) := by decide +kernel
theorem dX11_init_173 : decode cX11_init 173 = .ok (.putfield 78, 3) := by decide +kernel
theorem dX11_init_176 : decode cX11_init 176 = .ok (.aload_n 0, 1) := by decide +kernel
theorem dX11_init_177 : decode cX11_init 177 = .ok (.new 82, 3) := by decide +kernel
theorem dX11_init_180 : decode cX11_init 180 = .ok (.dup, 1) := by decide +kernel
theorem dX11_init_181 : decode cX11_init 181 = .ok (.invokespecial 84, 3) := by decide +kernel
theorem dX11_init_184 : decode cX11_init 184 = .ok (.putfield 85, 3) := by decide +kernel
theorem dX11_init_187 : decode cX11_init 187 = .ok (.aload_n 0, 1) := by decide +kernel
theorem dX11_init_188 : decode cX11_init 188 = .ok (.new 89, 3) := by decide +kernel
theorem dX11_init_191 : decode cX11_init 191 = .ok (.dup, 1) := by decide +kernel
theorem dX11_init_192 : decode cX11_init 192 = .ok (.invokespecial 91, 3) := by decide +kernel
theorem dX11_init_195 : decode cX11_init 195 = .ok (.putfield 92, 3) := by decide +kernel
theorem dX11_init_198 : decode cX11_init 198 = .ok (.aload_n 0, 1) := by decide +kernel
theorem dX11_init_199 : decode cX11_init 199 = .ok (.bipush 100, 2) := by decide +kernel
theorem dX11_init_201 : decode cX11_init 201 = .ok (.putfield 96, 3) := by decide +kernel
theorem dX11_init_204 : decode cX11_init 204 = .ok (.return_, 1) := by decide +kernel
theorem dX11_pitch_0 : decode cX11_pitch 0 = .ok (.iload_n 1, 1) := by decide +kernel
theorem dX11_pitch_1 : decode cX11_pitch 1 = .ok (.iconst 1, 1) := by decide +kernel
theorem dX11_pitch_2 : decode cX11_pitch 2 = .ok (.sipush 1000, 3) := by decide +kernel
theorem dX11_pitch_5 : decode cX11_pitch 5 = .ok (.invokestatic 100, 3) := by decide +kernel
theorem dX11_pitch_8 : decode cX11_pitch 8 = .ok (.ifCond .ne 5, 3) := by decide +kernel
theorem dX11_pitch_11 : decode cX11_pitch 11 = .ok (.iconst 0, 1) := by decide +kernel
theorem dX11_pitch_12 : decode cX11_pitch 12 = .ok (.ireturn, 1) := by decide +kernel
theorem dX11_pitch_13 : decode cX11_pitch 13 = .ok (.aload_n 0, 1) := by decide +kernel
theorem dX11_pitch_14 : decode cX11_pitch 14 = .ok (.iload_n 1, 1) := by decide +kernel
theorem dX11_pitch_15 : decode cX11_pitch 15 = .ok (.putfield 96, 3) := by decide +kernel
theorem dX11_pitch_18 : decode cX11_pitch 18 = .ok (.iconst 1, 1) := by decide +kernel
theorem dX11_pitch_19 : decode cX11_pitch 19 = .ok (.ireturn, 1) := by decide +kernel
theorem dX11_seed_0 : decode cX11_seed 0 = .ok (.iload_n 1, 1) := by decide +kernel
theorem dX11_seed_1 : decode cX11_seed 1 = .ok (.iconst 0, 1) := by decide +kernel
theorem dX11_seed_2 : decode cX11_seed 2 = .ok (.ldc 104, 2) := by decide +kernel
theorem dX11_seed_4 : decode cX11_seed 4 = .ok (.invokestatic 100, 3) := by decide +kernel
theorem dX11_seed_7 : decode cX11_seed 7 = .ok (.ifCond .ne 5, 3) := by decide +kernel
theorem dX11_seed_10 : decode cX11_seed 10 = .ok (.iconst 0, 1) := by decide +kernel
theorem dX11_seed_11 : decode cX11_seed 11 = .ok (.ireturn, 1) := by decide +kernel
theorem dX11_seed_12 : decode cX11_seed 12 = .ok (.aload_n 0, 1) := by decide +kernel
theorem dX11_seed_13 : decode cX11_seed 13 = .ok (.getfield 39, 3) := by decide +kernel
theorem dX11_seed_16 : decode cX11_seed 16 = .ok (.iload_n 1, 1) := by decide +kernel
theorem dX11_seed_17 : decode cX11_seed 17 = .ok (.putfield 105, 3) := by decide +kernel
theorem dX11_seed_20 : decode cX11_seed 20 = .ok (.iconst 1, 1) := by decide +kernel
theorem dX11_seed_21 : decode cX11_seed 21 = .ok (.ireturn, 1) := by decide +kernel
theorem dX11_feed_0 : decode cX11_feed 0 = .ok (.aload_n 0, 1) := by decide +kernel
theorem dX11_feed_1 : decode cX11_feed 1 = .ok (.getfield 10, 3) := by decide +kernel
theorem dX11_feed_4 : decode cX11_feed 4 = .ok (.bipush 20, 2) := by decide +kernel
theorem dX11_feed_6 : decode cX11_feed 6 = .ok (.invokevirtual 108, 3) := by decide +kernel
theorem dX11_feed_9 : decode cX11_feed 9 = .ok (.ifCond .ne 5, 3) := by decide +kernel
theorem dX11_feed_12 : decode cX11_feed 12 = .ok (.iconst (-1), 1) := by decide +kernel
theorem dX11_feed_13 : decode cX11_feed 13 = .ok (.ireturn, 1) := by decide +kernel
theorem dX11_feed_14 : decode cX11_feed 14 = .ok (.aload_n 0, 1) := by decide +kernel
theorem dX11_feed_15 : decode cX11_feed 15 = .ok (.getfield 10, 3) := by decide +kernel
theorem dX11_feed_18 : decode cX11_feed 18 = .ok (.iload_n 1, 1) := by decide +kernel
theorem dX11_feed_19 : decode cX11_feed 19 = .ok (.invokevirtual 112, 3) := by decide +kernel
theorem dX11_feed_22 : decode cX11_feed 22 = .ok (.aload_n 0, 1) := by decide +kernel
theorem dX11_feed_23 : decode cX11_feed 23 = .ok (.getfield 10, 3) := by decide +kernel
theorem dX11_feed_26 : decode cX11_feed 26 = .ok (.iload_n 2, 1) := by decide +kernel
theorem dX11_feed_27 : decode cX11_feed 27 = .ok (.invokevirtual 112, 3) := by decide +kernel
theorem dX11_feed_30 : decode cX11_feed 30 = .ok (.aload_n 0, 1) := by decide +kernel
theorem dX11_feed_31 : decode cX11_feed 31 = .ok (.getfield 10, 3) := by decide +kernel
theorem dX11_feed_34 : decode cX11_feed 34 = .ok (.iload_n 3, 1) := by decide +kernel
theorem dX11_feed_35 : decode cX11_feed 35 = .ok (.invokevirtual 112, 3) := by decide +kernel
theorem dX11_feed_38 : decode cX11_feed 38 = .ok (.aload_n 0, 1) := by decide +kernel
theorem dX11_feed_39 : decode cX11_feed 39 = .ok (.getfield 10, 3) := by decide +kernel
theorem dX11_feed_42 : decode cX11_feed 42 = .ok (.iload 4, 2) := by decide +kernel
theorem dX11_feed_44 : decode cX11_feed 44 = .ok (.invokevirtual 112, 3) := by decide +kernel
theorem dX11_feed_47 : decode cX11_feed 47 = .ok (.aload_n 0, 1) := by decide +kernel
theorem dX11_feed_48 : decode cX11_feed 48 = .ok (.getfield 10, 3) := by decide +kernel
theorem dX11_feed_51 : decode cX11_feed 51 = .ok (.iload 5, 2) := by decide +kernel
theorem dX11_feed_53 : decode cX11_feed 53 = .ok (.invokevirtual 112, 3) := by decide +kernel
theorem dX11_feed_56 : decode cX11_feed 56 = .ok (.aload_n 0, 1) := by decide +kernel
theorem dX11_feed_57 : decode cX11_feed 57 = .ok (.getfield 10, 3) := by decide +kernel
theorem dX11_feed_60 : decode cX11_feed 60 = .ok (.getfield 116, 3) := by decide +kernel
theorem dX11_feed_63 : decode cX11_feed 63 = .ok (.ireturn, 1) := by decide +kernel
theorem dX11_rule_0 : decode cX11_rule 0 = .ok (.aload_n 0, 1) := by decide +kernel
theorem dX11_rule_1 : decode cX11_rule 1 = .ok (.iconst 0, 1) := by decide +kernel
theorem dX11_rule_2 : decode cX11_rule 2 = .ok (.iload_n 1, 1) := by decide +kernel
theorem dX11_rule_3 : decode cX11_rule 3 = .ok (.ldc 119, 2) := by decide +kernel
theorem dX11_rule_5 : decode cX11_rule 5 = .ok (.invokevirtual 121, 3) := by decide +kernel
theorem dX11_rule_8 : decode cX11_rule 8 = .ok (.ireturn, 1) := by decide +kernel
theorem dX11_sand_0 : decode cX11_sand 0 = .ok (.aload_n 0, 1) := by decide +kernel
theorem dX11_sand_1 : decode cX11_sand 1 = .ok (.iconst 1, 1) := by decide +kernel
theorem dX11_sand_2 : decode cX11_sand 2 = .ok (.iload_n 1, 1) := by decide +kernel
theorem dX11_sand_3 : decode cX11_sand 3 = .ok (.ldc 125, 2) := by decide +kernel
theorem dX11_sand_5 : decode cX11_sand 5 = .ok (.invokevirtual 121, 3) := by decide +kernel
theorem dX11_sand_8 : decode cX11_sand 8 = .ok (.ireturn, 1) := by decide +kernel
theorem dX11_stain_0 : decode cX11_stain 0 = .ok (.aload_n 0, 1) := by decide +kernel
theorem dX11_stain_1 : decode cX11_stain 1 = .ok (.iconst 2, 1) := by decide +kernel
theorem dX11_stain_2 : decode cX11_stain 2 = .ok (.iload_n 1, 1) := by decide +kernel
theorem dX11_stain_3 : decode cX11_stain 3 = .ok (.ldc 127, 2) := by decide +kernel
theorem dX11_stain_5 : decode cX11_stain 5 = .ok (.invokevirtual 121, 3) := by decide +kernel
theorem dX11_stain_8 : decode cX11_stain 8 = .ok (.ireturn, 1) := by decide +kernel
theorem dX11_readText_0 : decode cX11_readText 0 = .ok (.iload_n 2, 1) := by decide +kernel
theorem dX11_readText_1 : decode cX11_readText 1 = .ok (.iconst 1, 1) := by decide +kernel
theorem dX11_readText_2 : decode cX11_readText 2 = .ok (.sipush 200, 3) := by decide +kernel
theorem dX11_readText_5 : decode cX11_readText 5 = .ok (.invokestatic 100, 3) := by decide +kernel
theorem dX11_readText_8 : decode cX11_readText 8 = .ok (.ifCond .eq 14, 3) := by decide +kernel
theorem dX11_readText_11 : decode cX11_readText 11 = .ok (.iload_n 2, 1) := by decide +kernel
theorem dX11_readText_12 : decode cX11_readText 12 = .ok (.aload_n 0, 1) := by decide +kernel
theorem dX11_readText_13 : decode cX11_readText 13 = .ok (.getfield 10, 3) := by decide +kernel
theorem dX11_readText_16 : decode cX11_readText 16 = .ok (.getfield 116, 3) := by decide +kernel
theorem dX11_readText_19 : decode cX11_readText 19 = .ok (.if_icmp .le 5, 3) := by decide +kernel
theorem dX11_readText_22 : decode cX11_readText 22 = .ok (.iconst (-1), 1) := by decide +kernel
theorem dX11_readText_23 : decode cX11_readText 23 = .ok (.ireturn, 1) := by decide +kernel
theorem dX11_readText_24 : decode cX11_readText 24 = .ok (.aload_n 0, 1) := by decide +kernel
theorem dX11_readText_25 : decode cX11_readText 25 = .ok (.getfield 28, 3) := by decide +kernel
theorem dX11_readText_28 : decode cX11_readText 28 = .ok (.iconst 3, 1) := by decide +kernel
theorem dX11_readText_29 : decode cX11_readText 29 = .ok (.aaload, 1) := by decide +kernel
theorem dX11_readText_30 : decode cX11_readText 30 = .ok (.astore 4, 2) := by decide +kernel
theorem dX11_readText_32 : decode cX11_readText 32 = .ok (.aload_n 0, 1) := by decide +kernel
theorem dX11_readText_33 : decode cX11_readText 33 = .ok (.getfield 21, 3) := by decide +kernel
theorem dX11_readText_36 : decode cX11_readText 36 = .ok (.iload_n 2, 1) := by decide +kernel
theorem dX11_readText_37 : decode cX11_readText 37 = .ok (.aload_n 3, 1) := by decide +kernel
theorem dX11_readText_38 : decode cX11_readText 38 = .ok (.aload 4, 2) := by decide +kernel
theorem dX11_readText_40 : decode cX11_readText 40 = .ok (.invokevirtual 129, 3) := by decide +kernel
theorem dX11_readText_43 : decode cX11_readText 43 = .ok (.istore 5, 2) := by decide +kernel
theorem dX11_readText_45 : decode cX11_readText 45 = .ok (.aload_n 0, 1) := by decide +kernel
theorem dX11_readText_46 : decode cX11_readText 46 = .ok (.getfield 10, 3) := by decide +kernel
theorem dX11_readText_49 : decode cX11_readText 49 = .ok (.invokevirtual 133, 3) := by decide +kernel
theorem dX11_readText_52 : decode cX11_readText 52 = .ok (.iload 5, 2) := by decide +kernel
theorem dX11_readText_54 : decode cX11_readText 54 = .ok (.ifCond .le 23, 3) := by decide +kernel
theorem dX11_readText_57 : decode cX11_readText 57 = .ok (.aload_n 0, 1) := by decide +kernel
theorem dX11_readText_58 : decode cX11_readText 58 = .ok (.getfield 28, 3) := by decide +kernel
theorem dX11_readText_61 : decode cX11_readText 61 = .ok (.iconst 3, 1) := by decide +kernel
theorem dX11_readText_62 : decode cX11_readText 62 = .ok (.aload_n 0, 1) := by decide +kernel
theorem dX11_readText_63 : decode cX11_readText 63 = .ok (.getfield 28, 3) := by decide +kernel
theorem dX11_readText_66 : decode cX11_readText 66 = .ok (.iload_n 1, 1) := by decide +kernel
theorem dX11_readText_67 : decode cX11_readText 67 = .ok (.aaload, 1) := by decide +kernel
theorem dX11_readText_68 : decode cX11_readText 68 = .ok (.aastore, 1) := by decide +kernel
theorem dX11_readText_69 : decode cX11_readText 69 = .ok (.aload_n 0, 1) := by decide +kernel
theorem dX11_readText_70 : decode cX11_readText 70 = .ok (.getfield 28, 3) := by decide +kernel
theorem dX11_readText_73 : decode cX11_readText 73 = .ok (.iload_n 1, 1) := by decide +kernel
theorem dX11_readText_74 : decode cX11_readText 74 = .ok (.aload 4, 2) := by decide +kernel
theorem dX11_readText_76 : decode cX11_readText 76 = .ok (.aastore, 1) := by decide +kernel
theorem dX11_readText_77 : decode cX11_readText 77 = .ok (.iload 5, 2) := by decide +kernel
theorem dX11_readText_79 : decode cX11_readText 79 = .ok (.ireturn, 1) := by decide +kernel
theorem dX11_build_0 : decode cX11_build 0 = .ok (.iload_n 1, 1) := by decide +kernel
theorem dX11_build_1 : decode cX11_build 1 = .ok (.iconst 3, 1) := by decide +kernel
theorem dX11_build_2 : decode cX11_build 2 = .ok (.bipush 24, 2) := by decide +kernel
theorem dX11_build_4 : decode cX11_build 4 = .ok (.invokestatic 100, 3) := by decide +kernel
theorem dX11_build_7 : decode cX11_build 7 = .ok (.ifCond .eq 13, 3) := by decide +kernel
theorem dX11_build_10 : decode cX11_build 10 = .ok (.iload_n 2, 1) := by decide +kernel
theorem dX11_build_11 : decode cX11_build 11 = .ok (.iconst 1, 1) := by decide +kernel
theorem dX11_build_12 : decode cX11_build 12 = .ok (.bipush 8, 2) := by decide +kernel
theorem dX11_build_14 : decode cX11_build 14 = .ok (.invokestatic 100, 3) := by decide +kernel
theorem dX11_build_17 : decode cX11_build 17 = .ok (.ifCond .ne 5, 3) := by decide +kernel
theorem dX11_build_20 : decode cX11_build 20 = .ok (.iconst (-1), 1) := by decide +kernel
theorem dX11_build_21 : decode cX11_build 21 = .ok (.ireturn, 1) := by decide +kernel
theorem dX11_build_22 : decode cX11_build 22 = .ok (.aload_n 0, 1) := by decide +kernel
theorem dX11_build_23 : decode cX11_build 23 = .ok (.getfield 48, 3) := by decide +kernel
theorem dX11_build_26 : decode cX11_build 26 = .ok (.invokevirtual 136, 3) := by decide +kernel
theorem dX11_build_29 : decode cX11_build 29 = .ok (.aload_n 0, 1) := by decide +kernel
theorem dX11_build_30 : decode cX11_build 30 = .ok (.getfield 78, 3) := by decide +kernel
theorem dX11_build_33 : decode cX11_build 33 = .ok (.invokevirtual 139, 3) := by decide +kernel
theorem dX11_build_36 : decode cX11_build 36 = .ok (.aload_n 0, 1) := by decide +kernel
theorem dX11_build_37 : decode cX11_build 37 = .ok (.getfield 39, 3) := by decide +kernel
theorem dX11_build_40 : decode cX11_build 40 = .ok (.iload_n 1, 1) := by decide +kernel
theorem dX11_build_41 : decode cX11_build 41 = .ok (.iload_n 2, 1) := by decide +kernel
theorem dX11_build_42 : decode cX11_build 42 = .ok (.aload_n 0, 1) := by decide +kernel
theorem dX11_build_43 : decode cX11_build 43 = .ok (.getfield 28, 3) := by decide +kernel
theorem dX11_build_46 : decode cX11_build 46 = .ok (.iconst 0, 1) := by decide +kernel
theorem dX11_build_47 : decode cX11_build 47 = .ok (.aaload, 1) := by decide +kernel
theorem dX11_build_48 : decode cX11_build 48 = .ok (.invokevirtual 140, 3) := by decide +kernel
theorem dX11_build_51 : decode cX11_build 51 = .ok (.ireturn, 1) := by decide +kernel
theorem dX11_mound_0 : decode cX11_mound 0 = .ok (.iload_n 1, 1) := by decide +kernel
theorem dX11_mound_1 : decode cX11_mound 1 = .ok (.iconst 0, 1) := by decide +kernel
theorem dX11_mound_2 : decode cX11_mound 2 = .ok (.bipush 23, 2) := by decide +kernel
theorem dX11_mound_4 : decode cX11_mound 4 = .ok (.invokestatic 100, 3) := by decide +kernel
theorem dX11_mound_7 : decode cX11_mound 7 = .ok (.ifCond .eq 14, 3) := by decide +kernel
theorem dX11_mound_10 : decode cX11_mound 10 = .ok (.iload_n 2, 1) := by decide +kernel
theorem dX11_mound_11 : decode cX11_mound 11 = .ok (.iconst 0, 1) := by decide +kernel
theorem dX11_mound_12 : decode cX11_mound 12 = .ok (.sipush 1000, 3) := by decide +kernel
theorem dX11_mound_15 : decode cX11_mound 15 = .ok (.invokestatic 100, 3) := by decide +kernel
theorem dX11_mound_18 : decode cX11_mound 18 = .ok (.ifCond .ne 5, 3) := by decide +kernel
theorem dX11_mound_21 : decode cX11_mound 21 = .ok (.iconst 0, 1) := by decide +kernel
theorem dX11_mound_22 : decode cX11_mound 22 = .ok (.ireturn, 1) := by decide +kernel
theorem dX11_mound_23 : decode cX11_mound 23 = .ok (.aload_n 0, 1) := by decide +kernel
theorem dX11_mound_24 : decode cX11_mound 24 = .ok (.getfield 39, 3) := by decide +kernel
theorem dX11_mound_27 : decode cX11_mound 27 = .ok (.getfield 144, 3) := by decide +kernel
theorem dX11_mound_30 : decode cX11_mound 30 = .ok (.iload_n 1, 1) := by decide +kernel
theorem dX11_mound_31 : decode cX11_mound 31 = .ok (.iload_n 2, 1) := by decide +kernel
theorem dX11_mound_32 : decode cX11_mound 32 = .ok (.iastore, 1) := by decide +kernel
theorem dX11_mound_33 : decode cX11_mound 33 = .ok (.iconst 1, 1) := by decide +kernel
theorem dX11_mound_34 : decode cX11_mound 34 = .ok (.ireturn, 1) := by decide +kernel
theorem dX11_bury_0 : decode cX11_bury 0 = .ok (.aload_n 0, 1) := by decide +kernel
theorem dX11_bury_1 : decode cX11_bury 1 = .ok (.getfield 39, 3) := by decide +kernel
theorem dX11_bury_4 : decode cX11_bury 4 = .ok (.invokevirtual 147, 3) := by decide +kernel
theorem dX11_bury_7 : decode cX11_bury 7 = .ok (.ifCond .eq 13, 3) := by decide +kernel
theorem dX11_bury_10 : decode cX11_bury 10 = .ok (.iload_n 1, 1) := by decide +kernel
theorem dX11_bury_11 : decode cX11_bury 11 = .ok (.iconst 1, 1) := by decide +kernel
theorem dX11_bury_12 : decode cX11_bury 12 = .ok (.bipush 9, 2) := by decide +kernel
theorem dX11_bury_14 : decode cX11_bury 14 = .ok (.invokestatic 100, 3) := by decide +kernel
theorem dX11_bury_17 : decode cX11_bury 17 = .ok (.ifCond .ne 5, 3) := by decide +kernel
theorem dX11_bury_20 : decode cX11_bury 20 = .ok (.iconst (-1), 1) := by decide +kernel
theorem dX11_bury_21 : decode cX11_bury 21 = .ok (.ireturn, 1) := by decide +kernel
theorem dX11_bury_22 : decode cX11_bury 22 = .ok (.aload_n 0, 1) := by decide +kernel
theorem dX11_bury_23 : decode cX11_bury 23 = .ok (.getfield 39, 3) := by decide +kernel
theorem dX11_bury_26 : decode cX11_bury 26 = .ok (.iload_n 1, 1) := by decide +kernel
theorem dX11_bury_27 : decode cX11_bury 27 = .ok (.aload_n 0, 1) := by decide +kernel
theorem dX11_bury_28 : decode cX11_bury 28 = .ok (.getfield 28, 3) := by decide +kernel
theorem dX11_bury_31 : decode cX11_bury 31 = .ok (.iconst 1, 1) := by decide +kernel
theorem dX11_bury_32 : decode cX11_bury 32 = .ok (.aaload, 1) := by decide +kernel
theorem dX11_bury_33 : decode cX11_bury 33 = .ok (.invokevirtual 151, 3) := by decide +kernel
theorem dX11_bury_36 : decode cX11_bury 36 = .ok (.aload_n 0, 1) := by decide +kernel
theorem dX11_bury_37 : decode cX11_bury 37 = .ok (.getfield 39, 3) := by decide +kernel
theorem dX11_bury_40 : decode cX11_bury 40 = .ok (.invokevirtual 155, 3) := by decide +kernel
theorem dX11_bury_43 : decode cX11_bury 43 = .ok (.ireturn, 1) := by decide +kernel
theorem dX11_lies_0 : decode cX11_lies 0 = .ok (.aload_n 0, 1) := by decide +kernel
theorem dX11_lies_1 : decode cX11_lies 1 = .ok (.getfield 39, 3) := by decide +kernel
theorem dX11_lies_4 : decode cX11_lies 4 = .ok (.iload_n 1, 1) := by decide +kernel
theorem dX11_lies_5 : decode cX11_lies 5 = .ok (.iload_n 2, 1) := by decide +kernel
theorem dX11_lies_6 : decode cX11_lies 6 = .ok (.iload_n 3, 1) := by decide +kernel
theorem dX11_lies_7 : decode cX11_lies 7 = .ok (.invokevirtual 159, 3) := by decide +kernel
theorem dX11_lies_10 : decode cX11_lies 10 = .ok (.istore 6, 2) := by decide +kernel
theorem dX11_lies_12 : decode cX11_lies 12 = .ok (.iload 6, 2) := by decide +kernel
theorem dX11_lies_14 : decode cX11_lies 14 = .ok (.ifCond .lt 31, 3) := by decide +kernel
theorem dX11_lies_17 : decode cX11_lies 17 = .ok (.iload 4, 2) := by decide +kernel
theorem dX11_lies_19 : decode cX11_lies 19 = .ok (.sipush (-3000), 3) := by decide +kernel
theorem dX11_lies_22 : decode cX11_lies 22 = .ok (.sipush 3000, 3) := by decide +kernel
theorem dX11_lies_25 : decode cX11_lies 25 = .ok (.invokestatic 100, 3) := by decide +kernel
theorem dX11_lies_28 : decode cX11_lies 28 = .ok (.ifCond .eq 17, 3) := by decide +kernel
theorem dX11_lies_31 : decode cX11_lies 31 = .ok (.iload 5, 2) := by decide +kernel
theorem dX11_lies_33 : decode cX11_lies 33 = .ok (.sipush (-3000), 3) := by decide +kernel
theorem dX11_lies_36 : decode cX11_lies 36 = .ok (.sipush 3000, 3) := by decide +kernel
theorem dX11_lies_39 : decode cX11_lies 39 = .ok (.invokestatic 100, 3) := by decide +kernel
theorem dX11_lies_42 : decode cX11_lies 42 = .ok (.ifCond .ne 5, 3) := by decide +kernel
theorem dX11_lies_45 : decode cX11_lies 45 = .ok (.iconst 0, 1) := by decide +kernel
theorem dX11_lies_46 : decode cX11_lies 46 = .ok (.ireturn, 1) := by decide +kernel
theorem dX11_lies_47 : decode cX11_lies 47 = .ok (.aload_n 0, 1) := by decide +kernel
theorem dX11_lies_48 : decode cX11_lies 48 = .ok (.getfield 39, 3) := by decide +kernel
theorem dX11_lies_51 : decode cX11_lies 51 = .ok (.iload 6, 2) := by decide +kernel
theorem dX11_lies_53 : decode cX11_lies 53 = .ok (.iload_n 2, 1) := by decide +kernel
theorem dX11_lies_54 : decode cX11_lies 54 = .ok (.iload 4, 2) := by decide +kernel
theorem dX11_lies_56 : decode cX11_lies 56 = .ok (.iload 5, 2) := by decide +kernel
theorem dX11_lies_58 : decode cX11_lies 58 = .ok (.invokevirtual 163, 3) := by decide +kernel
theorem dX11_lies_61 : decode cX11_lies 61 = .ok (.iconst 1, 1) := by decide +kernel
theorem dX11_lies_62 : decode cX11_lies 62 = .ok (.ireturn, 1) := by decide +kernel
theorem dX11_gone_0 : decode cX11_gone 0 = .ok (.aload_n 0, 1) := by decide +kernel
theorem dX11_gone_1 : decode cX11_gone 1 = .ok (.getfield 39, 3) := by decide +kernel
theorem dX11_gone_4 : decode cX11_gone 4 = .ok (.iload_n 1, 1) := by decide +kernel
theorem dX11_gone_5 : decode cX11_gone 5 = .ok (.iload_n 2, 1) := by decide +kernel
theorem dX11_gone_6 : decode cX11_gone 6 = .ok (.iload_n 3, 1) := by decide +kernel
theorem dX11_gone_7 : decode cX11_gone 7 = .ok (.invokevirtual 159, 3) := by decide +kernel
theorem dX11_gone_10 : decode cX11_gone 10 = .ok (.istore 4, 2) := by decide +kernel
theorem dX11_gone_12 : decode cX11_gone 12 = .ok (.iload 4, 2) := by decide +kernel
theorem dX11_gone_14 : decode cX11_gone 14 = .ok (.ifCond .lt 16, 3) := by decide +kernel
theorem dX11_gone_17 : decode cX11_gone 17 = .ok (.aload_n 0, 1) := by decide +kernel
theorem dX11_gone_18 : decode cX11_gone 18 = .ok (.getfield 39, 3) := by decide +kernel
theorem dX11_gone_21 : decode cX11_gone 21 = .ok (.getfield 167, 3) := by decide +kernel
theorem dX11_gone_24 : decode cX11_gone 24 = .ok (.iload 4, 2) := by decide +kernel
theorem dX11_gone_26 : decode cX11_gone 26 = .ok (.baload, 1) := by decide +kernel
theorem dX11_gone_27 : decode cX11_gone 27 = .ok (.ifCond .eq 5, 3) := by decide +kernel
theorem dX11_gone_30 : decode cX11_gone 30 = .ok (.iconst 0, 1) := by decide +kernel
theorem dX11_gone_31 : decode cX11_gone 31 = .ok (.ireturn, 1) := by decide +kernel
theorem dX11_gone_32 : decode cX11_gone 32 = .ok (.aload_n 0, 1) := by decide +kernel
theorem dX11_gone_33 : decode cX11_gone 33 = .ok (.getfield 39, 3) := by decide +kernel
theorem dX11_gone_36 : decode cX11_gone 36 = .ok (.iload 4, 2) := by decide +kernel
theorem dX11_gone_38 : decode cX11_gone 38 = .ok (.iload_n 2, 1) := by decide +kernel
theorem dX11_gone_39 : decode cX11_gone 39 = .ok (.invokevirtual 171, 3) := by decide +kernel
theorem dX11_gone_42 : decode cX11_gone 42 = .ok (.iconst 1, 1) := by decide +kernel
theorem dX11_gone_43 : decode cX11_gone 43 = .ok (.ireturn, 1) := by decide +kernel
theorem dX11_rivet_0 : decode cX11_rivet 0 = .ok (.aload_n 0, 1) := by decide +kernel
theorem dX11_rivet_1 : decode cX11_rivet 1 = .ok (.getfield 39, 3) := by decide +kernel
theorem dX11_rivet_4 : decode cX11_rivet 4 = .ok (.iload_n 1, 1) := by decide +kernel
theorem dX11_rivet_5 : decode cX11_rivet 5 = .ok (.iload_n 2, 1) := by decide +kernel
theorem dX11_rivet_6 : decode cX11_rivet 6 = .ok (.iload_n 3, 1) := by decide +kernel
theorem dX11_rivet_7 : decode cX11_rivet 7 = .ok (.invokevirtual 159, 3) := by decide +kernel
theorem dX11_rivet_10 : decode cX11_rivet 10 = .ok (.istore 5, 2) := by decide +kernel
theorem dX11_rivet_12 : decode cX11_rivet 12 = .ok (.iload 5, 2) := by decide +kernel
theorem dX11_rivet_14 : decode cX11_rivet 14 = .ok (.ifCond .ge 7, 3) := by decide +kernel
theorem dX11_rivet_17 : decode cX11_rivet 17 = .ok (.sipush (-10000), 3) := by decide +kernel
theorem dX11_rivet_20 : decode cX11_rivet 20 = .ok (.ireturn, 1) := by decide +kernel
theorem dX11_rivet_21 : decode cX11_rivet 21 = .ok (.iload 4, 2) := by decide +kernel
theorem dX11_rivet_23 : decode cX11_rivet 23 = .ok (.tableswitch 104 0 4 #[33, 44, 55, 74, 85], 33) := by decide +kernel
theorem dX11_rivet_56 : decode cX11_rivet 56 = .ok (.aload_n 0, 1) := by decide +kernel
theorem dX11_rivet_57 : decode cX11_rivet 57 = .ok (.getfield 39, 3) := by decide +kernel
theorem dX11_rivet_60 : decode cX11_rivet 60 = .ok (.getfield 175, 3) := by decide +kernel
theorem dX11_rivet_63 : decode cX11_rivet 63 = .ok (.iload 5, 2) := by decide +kernel
theorem dX11_rivet_65 : decode cX11_rivet 65 = .ok (.iaload, 1) := by decide +kernel
theorem dX11_rivet_66 : decode cX11_rivet 66 = .ok (.ireturn, 1) := by decide +kernel
theorem dX11_rivet_67 : decode cX11_rivet 67 = .ok (.aload_n 0, 1) := by decide +kernel
theorem dX11_rivet_68 : decode cX11_rivet 68 = .ok (.getfield 39, 3) := by decide +kernel
theorem dX11_rivet_71 : decode cX11_rivet 71 = .ok (.getfield 178, 3) := by decide +kernel
theorem dX11_rivet_74 : decode cX11_rivet 74 = .ok (.iload 5, 2) := by decide +kernel
theorem dX11_rivet_76 : decode cX11_rivet 76 = .ok (.iaload, 1) := by decide +kernel
theorem dX11_rivet_77 : decode cX11_rivet 77 = .ok (.ireturn, 1) := by decide +kernel
theorem dX11_rivet_78 : decode cX11_rivet 78 = .ok (.aload_n 0, 1) := by decide +kernel
theorem dX11_rivet_79 : decode cX11_rivet 79 = .ok (.getfield 39, 3) := by decide +kernel
theorem dX11_rivet_82 : decode cX11_rivet 82 = .ok (.getfield 167, 3) := by decide +kernel
theorem dX11_rivet_85 : decode cX11_rivet 85 = .ok (.iload 5, 2) := by decide +kernel
theorem dX11_rivet_87 : decode cX11_rivet 87 = .ok (.baload, 1) := by decide +kernel
theorem dX11_rivet_88 : decode cX11_rivet 88 = .ok (.ifCond .eq 7, 3) := by decide +kernel
theorem dX11_rivet_91 : decode cX11_rivet 91 = .ok (.iconst 1, 1) := by decide +kernel
theorem dX11_rivet_92 : decode cX11_rivet 92 = .ok (.goto 4, 3) := by decide +kernel
theorem dX11_rivet_95 : decode cX11_rivet 95 = .ok (.iconst 0, 1) := by decide +kernel
theorem dX11_rivet_96 : decode cX11_rivet 96 = .ok (.ireturn, 1) := by decide +kernel
theorem dX11_rivet_97 : decode cX11_rivet 97 = .ok (.aload_n 0, 1) := by decide +kernel
theorem dX11_rivet_98 : decode cX11_rivet 98 = .ok (.getfield 39, 3) := by decide +kernel
theorem dX11_rivet_101 : decode cX11_rivet 101 = .ok (.getfield 181, 3) := by decide +kernel
theorem dX11_rivet_104 : decode cX11_rivet 104 = .ok (.iload 5, 2) := by decide +kernel
theorem dX11_rivet_106 : decode cX11_rivet 106 = .ok (.iaload, 1) := by decide +kernel
theorem dX11_rivet_107 : decode cX11_rivet 107 = .ok (.ireturn, 1) := by decide +kernel
theorem dX11_rivet_108 : decode cX11_rivet 108 = .ok (.aload_n 0, 1) := by decide +kernel
theorem dX11_rivet_109 : decode cX11_rivet 109 = .ok (.getfield 39, 3) := by decide +kernel
theorem dX11_rivet_112 : decode cX11_rivet 112 = .ok (.iload 5, 2) := by decide +kernel
theorem dX11_rivet_114 : decode cX11_rivet 114 = .ok (.iload_n 1, 1) := by decide +kernel
theorem dX11_rivet_115 : decode cX11_rivet 115 = .ok (.invokevirtual 184, 3) := by decide +kernel
theorem dX11_rivet_118 : decode cX11_rivet 118 = .ok (.ifCond .eq 7, 3) := by decide +kernel
theorem dX11_rivet_121 : decode cX11_rivet 121 = .ok (.iconst 1, 1) := by decide +kernel
theorem dX11_rivet_122 : decode cX11_rivet 122 = .ok (.goto 4, 3) := by decide +kernel
theorem dX11_rivet_125 : decode cX11_rivet 125 = .ok (.iconst 0, 1) := by decide +kernel
theorem dX11_rivet_126 : decode cX11_rivet 126 = .ok (.ireturn, 1) := by decide +kernel
theorem dX11_rivet_127 : decode cX11_rivet 127 = .ok (.sipush (-10000), 3) := by decide +kernel
theorem dX11_rivet_130 : decode cX11_rivet 130 = .ok (.ireturn, 1) := by decide +kernel
theorem dX11_cut_0 : decode cX11_cut 0 = .ok (.iload_n 1, 1) := by decide +kernel
theorem dX11_cut_1 : decode cX11_cut 1 = .ok (.aload_n 0, 1) := by decide +kernel
theorem dX11_cut_2 : decode cX11_cut 2 = .ok (.getfield 39, 3) := by decide +kernel
theorem dX11_cut_5 : decode cX11_cut 5 = .ok (.invokevirtual 188, 3) := by decide +kernel
theorem dX11_cut_8 : decode cX11_cut 8 = .ok (.iconst (-1), 1) := by decide +kernel
theorem dX11_cut_9 : decode cX11_cut 9 = .ok (.ixor, 1) := by decide +kernel
theorem dX11_cut_10 : decode cX11_cut 10 = .ok (.iand, 1) := by decide +kernel
theorem dX11_cut_11 : decode cX11_cut 11 = .ok (.ifCond .eq 5, 3) := by decide +kernel
theorem dX11_cut_14 : decode cX11_cut 14 = .ok (.iconst 0, 1) := by decide +kernel
theorem dX11_cut_15 : decode cX11_cut 15 = .ok (.ireturn, 1) := by decide +kernel
theorem dX11_cut_16 : decode cX11_cut 16 = .ok (.aload_n 0, 1) := by decide +kernel
theorem dX11_cut_17 : decode cX11_cut 17 = .ok (.getfield 39, 3) := by decide +kernel
theorem dX11_cut_20 : decode cX11_cut 20 = .ok (.iload_n 1, 1) := by decide +kernel
theorem dX11_cut_21 : decode cX11_cut 21 = .ok (.invokevirtual 191, 3) := by decide +kernel
theorem dX11_cut_24 : decode cX11_cut 24 = .ok (.iconst 1, 1) := by decide +kernel
theorem dX11_cut_25 : decode cX11_cut 25 = .ok (.ireturn, 1) := by decide +kernel
theorem dX11_drawing_0 : decode cX11_drawing 0 = .ok (.aload_n 0, 1) := by decide +kernel
theorem dX11_drawing_1 : decode cX11_drawing 1 = .ok (.getfield 39, 3) := by decide +kernel
theorem dX11_drawing_4 : decode cX11_drawing 4 = .ok (.invokevirtual 147, 3) := by decide +kernel
theorem dX11_drawing_7 : decode cX11_drawing 7 = .ok (.ifCond .eq 14, 3) := by decide +kernel
theorem dX11_drawing_10 : decode cX11_drawing 10 = .ok (.iload_n 1, 1) := by decide +kernel
theorem dX11_drawing_11 : decode cX11_drawing 11 = .ok (.iconst 0, 1) := by decide +kernel
theorem dX11_drawing_12 : decode cX11_drawing 12 = .ok (.sipush 2100, 3) := by decide +kernel
theorem dX11_drawing_15 : decode cX11_drawing 15 = .ok (.invokestatic 100, 3) := by decide +kernel
theorem dX11_drawing_18 : decode cX11_drawing 18 = .ok (.ifCond .ne 5, 3) := by decide +kernel
theorem dX11_drawing_21 : decode cX11_drawing 21 = .ok (.iconst (-1), 1) := by decide +kernel
theorem dX11_drawing_22 : decode cX11_drawing 22 = .ok (.ireturn, 1) := by decide +kernel
theorem dX11_drawing_23 : decode cX11_drawing 23 = .ok (.aload_n 0, 1) := by decide +kernel
theorem dX11_drawing_24 : decode cX11_drawing 24 = .ok (.getfield 48, 3) := by decide +kernel
theorem dX11_drawing_27 : decode cX11_drawing 27 = .ok (.invokevirtual 194, 3) := by decide +kernel
theorem dX11_drawing_30 : decode cX11_drawing 30 = .ok (.ireturn, 1) := by decide +kernel
theorem dX11_mark_0 : decode cX11_mark 0 = .ok (.aload_n 0, 1) := by decide +kernel
theorem dX11_mark_1 : decode cX11_mark 1 = .ok (.getfield 39, 3) := by decide +kernel
theorem dX11_mark_4 : decode cX11_mark 4 = .ok (.iload_n 2, 1) := by decide +kernel
theorem dX11_mark_5 : decode cX11_mark 5 = .ok (.iload_n 3, 1) := by decide +kernel
theorem dX11_mark_6 : decode cX11_mark 6 = .ok (.iload 4, 2) := by decide +kernel
theorem dX11_mark_8 : decode cX11_mark 8 = .ok (.invokevirtual 159, 3) := by decide +kernel
theorem dX11_mark_11 : decode cX11_mark 11 = .ok (.istore 7, 2) := by decide +kernel
theorem dX11_mark_13 : decode cX11_mark 13 = .ok (.iload 7, 2) := by decide +kernel
theorem dX11_mark_15 : decode cX11_mark 15 = .ok (.ifCond .lt 42, 3) := by decide +kernel
theorem dX11_mark_18 : decode cX11_mark 18 = .ok (.aload_n 0, 1) := by decide +kernel
end
section
theorem dX11_mark_19 : decode cX11_mark 19 = .ok (.getfield 48, 3) := by decide +kernel
theorem dX11_mark_22 : decode cX11_mark 22 = .ok (.iload_n 1, 1) := by decide +kernel
theorem dX11_mark_23 : decode cX11_mark 23 = .ok (.invokevirtual 197, 3) := by decide +kernel
theorem dX11_mark_26 : decode cX11_mark 26 = .ok (.ifCond .eq 31, 3) := by decide +kernel
theorem dX11_mark_29 : decode cX11_mark 29 = .ok (.iload 5, 2) := by decide +kernel
theorem dX11_mark_31 : decode cX11_mark 31 = .ok (.sipush (-6000), 3) := by decide +kernel
theorem dX11_mark_34 : decode cX11_mark 34 = .ok (.sipush 6000, 3) := by decide +kernel
theorem dX11_mark_37 : decode cX11_mark 37 = .ok (.invokestatic 100, 3) := by decide +kernel
theorem dX11_mark_40 : decode cX11_mark 40 = .ok (.ifCond .eq 17, 3) := by decide +kernel
theorem dX11_mark_43 : decode cX11_mark 43 = .ok (.iload 6, 2) := by decide +kernel
theorem dX11_mark_45 : decode cX11_mark 45 = .ok (.sipush (-6000), 3) := by decide +kernel
theorem dX11_mark_48 : decode cX11_mark 48 = .ok (.sipush 6000, 3) := by decide +kernel
theorem dX11_mark_51 : decode cX11_mark 51 = .ok (.invokestatic 100, 3) := by decide +kernel
theorem dX11_mark_54 : decode cX11_mark 54 = .ok (.ifCond .ne 5, 3) := by decide +kernel
theorem dX11_mark_57 : decode cX11_mark 57 = .ok (.iconst 0, 1) := by decide +kernel
theorem dX11_mark_58 : decode cX11_mark 58 = .ok (.ireturn, 1) := by decide +kernel
theorem dX11_mark_59 : decode cX11_mark 59 = .ok (.aload_n 0, 1) := by decide +kernel
theorem dX11_mark_60 : decode cX11_mark 60 = .ok (.getfield 48, 3) := by decide +kernel
theorem dX11_mark_63 : decode cX11_mark 63 = .ok (.iload_n 1, 1) := by decide +kernel
theorem dX11_mark_64 : decode cX11_mark 64 = .ok (.iload 7, 2) := by decide +kernel
theorem dX11_mark_66 : decode cX11_mark 66 = .ok (.iload 5, 2) := by decide +kernel
theorem dX11_mark_68 : decode cX11_mark 68 = .ok (.iload 6, 2) := by decide +kernel
theorem dX11_mark_70 : decode cX11_mark 70 = .ok (.invokevirtual 200, 3) := by decide +kernel
theorem dX11_mark_73 : decode cX11_mark 73 = .ok (.iconst 1, 1) := by decide +kernel
theorem dX11_mark_74 : decode cX11_mark 74 = .ok (.ireturn, 1) := by decide +kernel
theorem dX11_draw_0 : decode cX11_draw 0 = .ok (.aload_n 0, 1) := by decide +kernel
theorem dX11_draw_1 : decode cX11_draw 1 = .ok (.getfield 48, 3) := by decide +kernel
theorem dX11_draw_4 : decode cX11_draw 4 = .ok (.iload_n 1, 1) := by decide +kernel
theorem dX11_draw_5 : decode cX11_draw 5 = .ok (.invokevirtual 197, 3) := by decide +kernel
theorem dX11_draw_8 : decode cX11_draw 8 = .ok (.ifCond .eq 41, 3) := by decide +kernel
theorem dX11_draw_11 : decode cX11_draw 11 = .ok (.iload_n 2, 1) := by decide +kernel
theorem dX11_draw_12 : decode cX11_draw 12 = .ok (.sipush (-2000), 3) := by decide +kernel
theorem dX11_draw_15 : decode cX11_draw 15 = .ok (.sipush 2000, 3) := by decide +kernel
theorem dX11_draw_18 : decode cX11_draw 18 = .ok (.invokestatic 100, 3) := by decide +kernel
theorem dX11_draw_21 : decode cX11_draw 21 = .ok (.ifCond .eq 28, 3) := by decide +kernel
theorem dX11_draw_24 : decode cX11_draw 24 = .ok (.iload_n 3, 1) := by decide +kernel
theorem dX11_draw_25 : decode cX11_draw 25 = .ok (.sipush (-2000), 3) := by decide +kernel
theorem dX11_draw_28 : decode cX11_draw 28 = .ok (.sipush 2000, 3) := by decide +kernel
theorem dX11_draw_31 : decode cX11_draw 31 = .ok (.invokestatic 100, 3) := by decide +kernel
theorem dX11_draw_34 : decode cX11_draw 34 = .ok (.ifCond .eq 15, 3) := by decide +kernel
theorem dX11_draw_37 : decode cX11_draw 37 = .ok (.iload 4, 2) := by decide +kernel
theorem dX11_draw_39 : decode cX11_draw 39 = .ok (.iconst 0, 1) := by decide +kernel
theorem dX11_draw_40 : decode cX11_draw 40 = .ok (.sipush 1000, 3) := by decide +kernel
theorem dX11_draw_43 : decode cX11_draw 43 = .ok (.invokestatic 100, 3) := by decide +kernel
theorem dX11_draw_46 : decode cX11_draw 46 = .ok (.ifCond .ne 5, 3) := by decide +kernel
theorem dX11_draw_49 : decode cX11_draw 49 = .ok (.iconst (-1), 1) := by decide +kernel
theorem dX11_draw_50 : decode cX11_draw 50 = .ok (.ireturn, 1) := by decide +kernel
theorem dX11_draw_51 : decode cX11_draw 51 = .ok (.aload_n 0, 1) := by decide +kernel
theorem dX11_draw_52 : decode cX11_draw 52 = .ok (.getfield 48, 3) := by decide +kernel
theorem dX11_draw_55 : decode cX11_draw 55 = .ok (.iload_n 1, 1) := by decide +kernel
theorem dX11_draw_56 : decode cX11_draw 56 = .ok (.iload_n 2, 1) := by decide +kernel
theorem dX11_draw_57 : decode cX11_draw 57 = .ok (.iload_n 3, 1) := by decide +kernel
theorem dX11_draw_58 : decode cX11_draw 58 = .ok (.iload 4, 2) := by decide +kernel
theorem dX11_draw_60 : decode cX11_draw 60 = .ok (.invokevirtual 202, 3) := by decide +kernel
theorem dX11_draw_63 : decode cX11_draw 63 = .ok (.aload_n 0, 1) := by decide +kernel
theorem dX11_draw_64 : decode cX11_draw 64 = .ok (.getfield 48, 3) := by decide +kernel
theorem dX11_draw_67 : decode cX11_draw 67 = .ok (.iload_n 1, 1) := by decide +kernel
theorem dX11_draw_68 : decode cX11_draw 68 = .ok (.invokevirtual 205, 3) := by decide +kernel
theorem dX11_draw_71 : decode cX11_draw 71 = .ok (.ireturn, 1) := by decide +kernel
theorem dX11_marked_0 : decode cX11_marked 0 = .ok (.aload_n 0, 1) := by decide +kernel
theorem dX11_marked_1 : decode cX11_marked 1 = .ok (.getfield 39, 3) := by decide +kernel
theorem dX11_marked_4 : decode cX11_marked 4 = .ok (.iload_n 2, 1) := by decide +kernel
theorem dX11_marked_5 : decode cX11_marked 5 = .ok (.iload_n 3, 1) := by decide +kernel
theorem dX11_marked_6 : decode cX11_marked 6 = .ok (.iload 4, 2) := by decide +kernel
theorem dX11_marked_8 : decode cX11_marked 8 = .ok (.invokevirtual 159, 3) := by decide +kernel
theorem dX11_marked_11 : decode cX11_marked 11 = .ok (.istore 6, 2) := by decide +kernel
theorem dX11_marked_13 : decode cX11_marked 13 = .ok (.iload 6, 2) := by decide +kernel
theorem dX11_marked_15 : decode cX11_marked 15 = .ok (.ifCond .lt 26, 3) := by decide +kernel
theorem dX11_marked_18 : decode cX11_marked 18 = .ok (.iload 5, 2) := by decide +kernel
theorem dX11_marked_20 : decode cX11_marked 20 = .ok (.iconst 0, 1) := by decide +kernel
theorem dX11_marked_21 : decode cX11_marked 21 = .ok (.iconst 1, 1) := by decide +kernel
theorem dX11_marked_22 : decode cX11_marked 22 = .ok (.invokestatic 100, 3) := by decide +kernel
theorem dX11_marked_25 : decode cX11_marked 25 = .ok (.ifCond .eq 16, 3) := by decide +kernel
theorem dX11_marked_28 : decode cX11_marked 28 = .ok (.aload_n 0, 1) := by decide +kernel
theorem dX11_marked_29 : decode cX11_marked 29 = .ok (.getfield 48, 3) := by decide +kernel
theorem dX11_marked_32 : decode cX11_marked 32 = .ok (.iload_n 1, 1) := by decide +kernel
theorem dX11_marked_33 : decode cX11_marked 33 = .ok (.iload 6, 2) := by decide +kernel
theorem dX11_marked_35 : decode cX11_marked 35 = .ok (.invokevirtual 209, 3) := by decide +kernel
theorem dX11_marked_38 : decode cX11_marked 38 = .ok (.ifCond .ne 7, 3) := by decide +kernel
theorem dX11_marked_41 : decode cX11_marked 41 = .ok (.sipush (-10000), 3) := by decide +kernel
theorem dX11_marked_44 : decode cX11_marked 44 = .ok (.ireturn, 1) := by decide +kernel
theorem dX11_marked_45 : decode cX11_marked 45 = .ok (.aload_n 0, 1) := by decide +kernel
theorem dX11_marked_46 : decode cX11_marked 46 = .ok (.getfield 48, 3) := by decide +kernel
theorem dX11_marked_49 : decode cX11_marked 49 = .ok (.iload_n 1, 1) := by decide +kernel
theorem dX11_marked_50 : decode cX11_marked 50 = .ok (.iload 6, 2) := by decide +kernel
theorem dX11_marked_52 : decode cX11_marked 52 = .ok (.iload 5, 2) := by decide +kernel
theorem dX11_marked_54 : decode cX11_marked 54 = .ok (.invokevirtual 212, 3) := by decide +kernel
theorem dX11_marked_57 : decode cX11_marked 57 = .ok (.ireturn, 1) := by decide +kernel
theorem dX11_joined_0 : decode cX11_joined 0 = .ok (.aload_n 0, 1) := by decide +kernel
theorem dX11_joined_1 : decode cX11_joined 1 = .ok (.getfield 48, 3) := by decide +kernel
theorem dX11_joined_4 : decode cX11_joined 4 = .ok (.iload_n 1, 1) := by decide +kernel
theorem dX11_joined_5 : decode cX11_joined 5 = .ok (.iload_n 2, 1) := by decide +kernel
theorem dX11_joined_6 : decode cX11_joined 6 = .ok (.invokevirtual 215, 3) := by decide +kernel
theorem dX11_joined_9 : decode cX11_joined 9 = .ok (.ifCond .eq 12, 3) := by decide +kernel
theorem dX11_joined_12 : decode cX11_joined 12 = .ok (.iload_n 3, 1) := by decide +kernel
theorem dX11_joined_13 : decode cX11_joined 13 = .ok (.iconst 0, 1) := by decide +kernel
theorem dX11_joined_14 : decode cX11_joined 14 = .ok (.iconst 4, 1) := by decide +kernel
theorem dX11_joined_15 : decode cX11_joined 15 = .ok (.invokestatic 100, 3) := by decide +kernel
theorem dX11_joined_18 : decode cX11_joined 18 = .ok (.ifCond .ne 6, 3) := by decide +kernel
theorem dX11_joined_21 : decode cX11_joined 21 = .ok (.ldc 218, 2) := by decide +kernel
theorem dX11_joined_23 : decode cX11_joined 23 = .ok (.ireturn, 1) := by decide +kernel
theorem dX11_joined_24 : decode cX11_joined 24 = .ok (.aload_n 0, 1) := by decide +kernel
theorem dX11_joined_25 : decode cX11_joined 25 = .ok (.getfield 48, 3) := by decide +kernel
theorem dX11_joined_28 : decode cX11_joined 28 = .ok (.iload_n 1, 1) := by decide +kernel
theorem dX11_joined_29 : decode cX11_joined 29 = .ok (.iload_n 2, 1) := by decide +kernel
theorem dX11_joined_30 : decode cX11_joined 30 = .ok (.invokevirtual 219, 3) := by decide +kernel
theorem dX11_joined_33 : decode cX11_joined 33 = .ok (.istore 4, 2) := by decide +kernel
theorem dX11_joined_35 : decode cX11_joined 35 = .ok (.iload_n 3, 1) := by decide +kernel
theorem dX11_joined_36 : decode cX11_joined 36 = .ok (.iconst 2, 1) := by decide +kernel
theorem dX11_joined_37 : decode cX11_joined 37 = .ok (.if_icmp .ne 6, 3) := by decide +kernel
theorem dX11_joined_40 : decode cX11_joined 40 = .ok (.iload 4, 2) := by decide +kernel
theorem dX11_joined_42 : decode cX11_joined 42 = .ok (.ireturn, 1) := by decide +kernel
theorem dX11_joined_43 : decode cX11_joined 43 = .ok (.iload 4, 2) := by decide +kernel
theorem dX11_joined_45 : decode cX11_joined 45 = .ok (.ifCond .ne 6, 3) := by decide +kernel
theorem dX11_joined_48 : decode cX11_joined 48 = .ok (.ldc 218, 2) := by decide +kernel
theorem dX11_joined_50 : decode cX11_joined 50 = .ok (.ireturn, 1) := by decide +kernel
theorem dX11_joined_51 : decode cX11_joined 51 = .ok (.iload_n 3, 1) := by decide +kernel
theorem dX11_joined_52 : decode cX11_joined 52 = .ok (.iconst 2, 1) := by decide +kernel
theorem dX11_joined_53 : decode cX11_joined 53 = .ok (.if_icmp .ge 14, 3) := by decide +kernel
theorem dX11_joined_56 : decode cX11_joined 56 = .ok (.aload_n 0, 1) := by decide +kernel
theorem dX11_joined_57 : decode cX11_joined 57 = .ok (.getfield 48, 3) := by decide +kernel
theorem dX11_joined_60 : decode cX11_joined 60 = .ok (.iload_n 1, 1) := by decide +kernel
theorem dX11_joined_61 : decode cX11_joined 61 = .ok (.iload_n 2, 1) := by decide +kernel
theorem dX11_joined_62 : decode cX11_joined 62 = .ok (.iload_n 3, 1) := by decide +kernel
theorem dX11_joined_63 : decode cX11_joined 63 = .ok (.invokevirtual 223, 3) := by decide +kernel
theorem dX11_joined_66 : decode cX11_joined 66 = .ok (.ireturn, 1) := by decide +kernel
theorem dX11_joined_67 : decode cX11_joined 67 = .ok (.aload_n 0, 1) := by decide +kernel
theorem dX11_joined_68 : decode cX11_joined 68 = .ok (.getfield 48, 3) := by decide +kernel
theorem dX11_joined_71 : decode cX11_joined 71 = .ok (.iload_n 1, 1) := by decide +kernel
theorem dX11_joined_72 : decode cX11_joined 72 = .ok (.iload_n 2, 1) := by decide +kernel
theorem dX11_joined_73 : decode cX11_joined 73 = .ok (.iload_n 3, 1) := by decide +kernel
theorem dX11_joined_74 : decode cX11_joined 74 = .ok (.iconst 3, 1) := by decide +kernel
theorem dX11_joined_75 : decode cX11_joined 75 = .ok (.isub, 1) := by decide +kernel
theorem dX11_joined_76 : decode cX11_joined 76 = .ok (.invokevirtual 226, 3) := by decide +kernel
theorem dX11_joined_79 : decode cX11_joined 79 = .ok (.ireturn, 1) := by decide +kernel
theorem dX11_off_0 : decode cX11_off 0 = .ok (.aload_n 0, 1) := by decide +kernel
theorem dX11_off_1 : decode cX11_off 1 = .ok (.getfield 48, 3) := by decide +kernel
theorem dX11_off_4 : decode cX11_off 4 = .ok (.iload_n 1, 1) := by decide +kernel
theorem dX11_off_5 : decode cX11_off 5 = .ok (.iload_n 2, 1) := by decide +kernel
theorem dX11_off_6 : decode cX11_off 6 = .ok (.invokevirtual 215, 3) := by decide +kernel
theorem dX11_off_9 : decode cX11_off 9 = .ok (.ifCond .eq 26, 3) := by decide +kernel
theorem dX11_off_12 : decode cX11_off 12 = .ok (.iload_n 3, 1) := by decide +kernel
theorem dX11_off_13 : decode cX11_off 13 = .ok (.iconst 0, 1) := by decide +kernel
theorem dX11_off_14 : decode cX11_off 14 = .ok (.sipush 12000, 3) := by decide +kernel
theorem dX11_off_17 : decode cX11_off 17 = .ok (.invokestatic 100, 3) := by decide +kernel
theorem dX11_off_20 : decode cX11_off 20 = .ok (.ifCond .eq 15, 3) := by decide +kernel
theorem dX11_off_23 : decode cX11_off 23 = .ok (.aload_n 0, 1) := by decide +kernel
theorem dX11_off_24 : decode cX11_off 24 = .ok (.getfield 48, 3) := by decide +kernel
theorem dX11_off_27 : decode cX11_off 27 = .ok (.iload_n 1, 1) := by decide +kernel
theorem dX11_off_28 : decode cX11_off 28 = .ok (.iload_n 2, 1) := by decide +kernel
theorem dX11_off_29 : decode cX11_off 29 = .ok (.invokevirtual 219, 3) := by decide +kernel
theorem dX11_off_32 : decode cX11_off 32 = .ok (.ifCond .ne 5, 3) := by decide +kernel
theorem dX11_off_35 : decode cX11_off 35 = .ok (.iconst (-1), 1) := by decide +kernel
theorem dX11_off_36 : decode cX11_off 36 = .ok (.ireturn, 1) := by decide +kernel
theorem dX11_off_37 : decode cX11_off 37 = .ok (.aload_n 0, 1) := by decide +kernel
theorem dX11_off_38 : decode cX11_off 38 = .ok (.getfield 48, 3) := by decide +kernel
theorem dX11_off_41 : decode cX11_off 41 = .ok (.iload_n 1, 1) := by decide +kernel
theorem dX11_off_42 : decode cX11_off 42 = .ok (.iload_n 2, 1) := by decide +kernel
theorem dX11_off_43 : decode cX11_off 43 = .ok (.iload_n 3, 1) := by decide +kernel
theorem dX11_off_44 : decode cX11_off 44 = .ok (.invokevirtual 229, 3) := by decide +kernel
theorem dX11_off_47 : decode cX11_off 47 = .ok (.ireturn, 1) := by decide +kernel
theorem dX11_slipped_0 : decode cX11_slipped 0 = .ok (.aload_n 0, 1) := by decide +kernel
theorem dX11_slipped_1 : decode cX11_slipped 1 = .ok (.getfield 39, 3) := by decide +kernel
theorem dX11_slipped_4 : decode cX11_slipped 4 = .ok (.iload 4, 2) := by decide +kernel
theorem dX11_slipped_6 : decode cX11_slipped 6 = .ok (.iload 5, 2) := by decide +kernel
theorem dX11_slipped_8 : decode cX11_slipped 8 = .ok (.iload 6, 2) := by decide +kernel
theorem dX11_slipped_10 : decode cX11_slipped 10 = .ok (.invokevirtual 159, 3) := by decide +kernel
theorem dX11_slipped_13 : decode cX11_slipped 13 = .ok (.istore 7, 2) := by decide +kernel
theorem dX11_slipped_15 : decode cX11_slipped 15 = .ok (.iload 7, 2) := by decide +kernel
theorem dX11_slipped_17 : decode cX11_slipped 17 = .ok (.ifCond .lt 18, 3) := by decide +kernel
theorem dX11_slipped_20 : decode cX11_slipped 20 = .ok (.iload_n 1, 1) := by decide +kernel
theorem dX11_slipped_21 : decode cX11_slipped 21 = .ok (.iload_n 2, 1) := by decide +kernel
theorem dX11_slipped_22 : decode cX11_slipped 22 = .ok (.if_icmp .eq 13, 3) := by decide +kernel
theorem dX11_slipped_25 : decode cX11_slipped 25 = .ok (.iload_n 1, 1) := by decide +kernel
theorem dX11_slipped_26 : decode cX11_slipped 26 = .ok (.iload_n 3, 1) := by decide +kernel
theorem dX11_slipped_27 : decode cX11_slipped 27 = .ok (.if_icmp .eq 8, 3) := by decide +kernel
theorem dX11_slipped_30 : decode cX11_slipped 30 = .ok (.iload_n 2, 1) := by decide +kernel
theorem dX11_slipped_31 : decode cX11_slipped 31 = .ok (.iload_n 3, 1) := by decide +kernel
theorem dX11_slipped_32 : decode cX11_slipped 32 = .ok (.if_icmp .ne 5, 3) := by decide +kernel
theorem dX11_slipped_35 : decode cX11_slipped 35 = .ok (.iconst (-1), 1) := by decide +kernel
theorem dX11_slipped_36 : decode cX11_slipped 36 = .ok (.ireturn, 1) := by decide +kernel
theorem dX11_slipped_37 : decode cX11_slipped 37 = .ok (.aload_n 0, 1) := by decide +kernel
theorem dX11_slipped_38 : decode cX11_slipped 38 = .ok (.getfield 48, 3) := by decide +kernel
theorem dX11_slipped_41 : decode cX11_slipped 41 = .ok (.iload_n 1, 1) := by decide +kernel
theorem dX11_slipped_42 : decode cX11_slipped 42 = .ok (.iload 7, 2) := by decide +kernel
theorem dX11_slipped_44 : decode cX11_slipped 44 = .ok (.invokevirtual 209, 3) := by decide +kernel
theorem dX11_slipped_47 : decode cX11_slipped 47 = .ok (.ifCond .eq 29, 3) := by decide +kernel
theorem dX11_slipped_50 : decode cX11_slipped 50 = .ok (.aload_n 0, 1) := by decide +kernel
theorem dX11_slipped_51 : decode cX11_slipped 51 = .ok (.getfield 48, 3) := by decide +kernel
theorem dX11_slipped_54 : decode cX11_slipped 54 = .ok (.iload_n 2, 1) := by decide +kernel
theorem dX11_slipped_55 : decode cX11_slipped 55 = .ok (.iload 7, 2) := by decide +kernel
theorem dX11_slipped_57 : decode cX11_slipped 57 = .ok (.invokevirtual 209, 3) := by decide +kernel
theorem dX11_slipped_60 : decode cX11_slipped 60 = .ok (.ifCond .eq 16, 3) := by decide +kernel
theorem dX11_slipped_63 : decode cX11_slipped 63 = .ok (.aload_n 0, 1) := by decide +kernel
theorem dX11_slipped_64 : decode cX11_slipped 64 = .ok (.getfield 48, 3) := by decide +kernel
theorem dX11_slipped_67 : decode cX11_slipped 67 = .ok (.iload_n 3, 1) := by decide +kernel
theorem dX11_slipped_68 : decode cX11_slipped 68 = .ok (.iload 7, 2) := by decide +kernel
theorem dX11_slipped_70 : decode cX11_slipped 70 = .ok (.invokevirtual 209, 3) := by decide +kernel
theorem dX11_slipped_73 : decode cX11_slipped 73 = .ok (.ifCond .ne 5, 3) := by decide +kernel
theorem dX11_slipped_76 : decode cX11_slipped 76 = .ok (.iconst (-1), 1) := by decide +kernel
theorem dX11_slipped_77 : decode cX11_slipped 77 = .ok (.ireturn, 1) := by decide +kernel
theorem dX11_slipped_78 : decode cX11_slipped 78 = .ok (.aload_n 0, 1) := by decide +kernel
theorem dX11_slipped_79 : decode cX11_slipped 79 = .ok (.getfield 48, 3) := by decide +kernel
theorem dX11_slipped_82 : decode cX11_slipped 82 = .ok (.iload_n 1, 1) := by decide +kernel
theorem dX11_slipped_83 : decode cX11_slipped 83 = .ok (.iload_n 3, 1) := by decide +kernel
theorem dX11_slipped_84 : decode cX11_slipped 84 = .ok (.iload 7, 2) := by decide +kernel
theorem dX11_slipped_86 : decode cX11_slipped 86 = .ok (.invokevirtual 232, 3) := by decide +kernel
theorem dX11_slipped_89 : decode cX11_slipped 89 = .ok (.istore 8, 2) := by decide +kernel
theorem dX11_slipped_91 : decode cX11_slipped 91 = .ok (.aload_n 0, 1) := by decide +kernel
theorem dX11_slipped_92 : decode cX11_slipped 92 = .ok (.getfield 48, 3) := by decide +kernel
theorem dX11_slipped_95 : decode cX11_slipped 95 = .ok (.iload_n 2, 1) := by decide +kernel
theorem dX11_slipped_96 : decode cX11_slipped 96 = .ok (.iload_n 3, 1) := by decide +kernel
theorem dX11_slipped_97 : decode cX11_slipped 97 = .ok (.iload 7, 2) := by decide +kernel
theorem dX11_slipped_99 : decode cX11_slipped 99 = .ok (.invokevirtual 232, 3) := by decide +kernel
theorem dX11_slipped_102 : decode cX11_slipped 102 = .ok (.istore 9, 2) := by decide +kernel
theorem dX11_slipped_104 : decode cX11_slipped 104 = .ok (.iload 8, 2) := by decide +kernel
theorem dX11_slipped_106 : decode cX11_slipped 106 = .ok (.iload 9, 2) := by decide +kernel
theorem dX11_slipped_108 : decode cX11_slipped 108 = .ok (.if_icmp .ne 5, 3) := by decide +kernel
theorem dX11_slipped_111 : decode cX11_slipped 111 = .ok (.iconst 2, 1) := by decide +kernel
theorem dX11_slipped_112 : decode cX11_slipped 112 = .ok (.ireturn, 1) := by decide +kernel
theorem dX11_slipped_113 : decode cX11_slipped 113 = .ok (.iload 8, 2) := by decide +kernel
theorem dX11_slipped_115 : decode cX11_slipped 115 = .ok (.iload 9, 2) := by decide +kernel
theorem dX11_slipped_117 : decode cX11_slipped 117 = .ok (.if_icmp .le 7, 3) := by decide +kernel
theorem dX11_slipped_120 : decode cX11_slipped 120 = .ok (.iconst 0, 1) := by decide +kernel
theorem dX11_slipped_121 : decode cX11_slipped 121 = .ok (.goto 4, 3) := by decide +kernel
theorem dX11_slipped_124 : decode cX11_slipped 124 = .ok (.iconst 1, 1) := by decide +kernel
theorem dX11_slipped_125 : decode cX11_slipped 125 = .ok (.ireturn, 1) := by decide +kernel
theorem dX11_span_0 : decode cX11_span 0 = .ok (.iload_n 2, 1) := by decide +kernel
theorem dX11_span_1 : decode cX11_span 1 = .ok (.iconst 0, 1) := by decide +kernel
theorem dX11_span_2 : decode cX11_span 2 = .ok (.aload_n 0, 1) := by decide +kernel
theorem dX11_span_3 : decode cX11_span 3 = .ok (.getfield 39, 3) := by decide +kernel
theorem dX11_span_6 : decode cX11_span 6 = .ok (.getfield 235, 3) := by decide +kernel
theorem dX11_span_9 : decode cX11_span 9 = .ok (.iconst 1, 1) := by decide +kernel
theorem dX11_span_10 : decode cX11_span 10 = .ok (.isub, 1) := by decide +kernel
theorem dX11_span_11 : decode cX11_span 11 = .ok (.invokestatic 100, 3) := by decide +kernel
theorem dX11_span_14 : decode cX11_span 14 = .ok (.ifCond .eq 25, 3) := by decide +kernel
theorem dX11_span_17 : decode cX11_span 17 = .ok (.iload 4, 2) := by decide +kernel
theorem dX11_span_19 : decode cX11_span 19 = .ok (.iconst 0, 1) := by decide +kernel
theorem dX11_span_20 : decode cX11_span 20 = .ok (.iconst 1, 1) := by decide +kernel
theorem dX11_span_21 : decode cX11_span 21 = .ok (.invokestatic 100, 3) := by decide +kernel
theorem dX11_span_24 : decode cX11_span 24 = .ok (.ifCond .eq 15, 3) := by decide +kernel
theorem dX11_span_27 : decode cX11_span 27 = .ok (.aload_n 0, 1) := by decide +kernel
theorem dX11_span_28 : decode cX11_span 28 = .ok (.getfield 55, 3) := by decide +kernel
theorem dX11_span_31 : decode cX11_span 31 = .ok (.iload_n 1, 1) := by decide +kernel
theorem dX11_span_32 : decode cX11_span 32 = .ok (.iload_n 3, 1) := by decide +kernel
theorem dX11_span_33 : decode cX11_span 33 = .ok (.invokevirtual 238, 3) := by decide +kernel
theorem dX11_span_36 : decode cX11_span 36 = .ok (.ifCond .ne 7, 3) := by decide +kernel
theorem dX11_span_39 : decode cX11_span 39 = .ok (.sipush (-10000), 3) := by decide +kernel
theorem dX11_span_42 : decode cX11_span 42 = .ok (.ireturn, 1) := by decide +kernel
theorem dX11_span_43 : decode cX11_span 43 = .ok (.iload 4, 2) := by decide +kernel
theorem dX11_span_45 : decode cX11_span 45 = .ok (.ifCond .ne 15, 3) := by decide +kernel
theorem dX11_span_48 : decode cX11_span 48 = .ok (.aload_n 0, 1) := by decide +kernel
theorem dX11_span_49 : decode cX11_span 49 = .ok (.getfield 55, 3) := by decide +kernel
theorem dX11_span_52 : decode cX11_span 52 = .ok (.getfield 241, 3) := by decide +kernel
theorem dX11_span_55 : decode cX11_span 55 = .ok (.iload_n 2, 1) := by decide +kernel
theorem dX11_span_56 : decode cX11_span 56 = .ok (.iaload, 1) := by decide +kernel
theorem dX11_span_57 : decode cX11_span 57 = .ok (.goto 12, 3) := by decide +kernel
theorem dX11_span_60 : decode cX11_span 60 = .ok (.aload_n 0, 1) := by decide +kernel
theorem dX11_span_61 : decode cX11_span 61 = .ok (.getfield 55, 3) := by decide +kernel
theorem dX11_span_64 : decode cX11_span 64 = .ok (.getfield 244, 3) := by decide +kernel
theorem dX11_span_67 : decode cX11_span 67 = .ok (.iload_n 2, 1) := by decide +kernel
theorem dX11_span_68 : decode cX11_span 68 = .ok (.iaload, 1) := by decide +kernel
theorem dX11_span_69 : decode cX11_span 69 = .ok (.ireturn, 1) := by decide +kernel
theorem dX11_batten_0 : decode cX11_batten 0 = .ok (.iload_n 3, 1) := by decide +kernel
theorem dX11_batten_1 : decode cX11_batten 1 = .ok (.iconst (-1), 1) := by decide +kernel
theorem dX11_batten_2 : decode cX11_batten 2 = .ok (.aload_n 0, 1) := by decide +kernel
theorem dX11_batten_3 : decode cX11_batten 3 = .ok (.getfield 39, 3) := by decide +kernel
theorem dX11_batten_6 : decode cX11_batten 6 = .ok (.getfield 235, 3) := by decide +kernel
theorem dX11_batten_9 : decode cX11_batten 9 = .ok (.iconst 1, 1) := by decide +kernel
theorem dX11_batten_10 : decode cX11_batten 10 = .ok (.isub, 1) := by decide +kernel
theorem dX11_batten_11 : decode cX11_batten 11 = .ok (.invokestatic 100, 3) := by decide +kernel
theorem dX11_batten_14 : decode cX11_batten 14 = .ok (.ifCond .eq 15, 3) := by decide +kernel
theorem dX11_batten_17 : decode cX11_batten 17 = .ok (.aload_n 0, 1) := by decide +kernel
theorem dX11_batten_18 : decode cX11_batten 18 = .ok (.getfield 55, 3) := by decide +kernel
theorem dX11_batten_21 : decode cX11_batten 21 = .ok (.iload_n 1, 1) := by decide +kernel
theorem dX11_batten_22 : decode cX11_batten 22 = .ok (.iload_n 2, 1) := by decide +kernel
theorem dX11_batten_23 : decode cX11_batten 23 = .ok (.invokevirtual 247, 3) := by decide +kernel
theorem dX11_batten_26 : decode cX11_batten 26 = .ok (.ifCond .ne 7, 3) := by decide +kernel
theorem dX11_batten_29 : decode cX11_batten 29 = .ok (.ldc2_w 250, 3) := by decide +kernel
theorem dX11_batten_32 : decode cX11_batten 32 = .ok (.lreturn, 1) := by decide +kernel
theorem dX11_batten_33 : decode cX11_batten 33 = .ok (.iload_n 3, 1) := by decide +kernel
theorem dX11_batten_34 : decode cX11_batten 34 = .ok (.iconst (-1), 1) := by decide +kernel
theorem dX11_batten_35 : decode cX11_batten 35 = .ok (.if_icmp .ne 15, 3) := by decide +kernel
theorem dX11_batten_38 : decode cX11_batten 38 = .ok (.aload_n 0, 1) := by decide +kernel
theorem dX11_batten_39 : decode cX11_batten 39 = .ok (.getfield 55, 3) := by decide +kernel
theorem dX11_batten_42 : decode cX11_batten 42 = .ok (.getfield 252, 3) := by decide +kernel
theorem dX11_batten_45 : decode cX11_batten 45 = .ok (.iload_n 1, 1) := by decide +kernel
theorem dX11_batten_46 : decode cX11_batten 46 = .ok (.laload, 1) := by decide +kernel
theorem dX11_batten_47 : decode cX11_batten 47 = .ok (.goto 13, 3) := by decide +kernel
theorem dX11_batten_50 : decode cX11_batten 50 = .ok (.aload_n 0, 1) := by decide +kernel
theorem dX11_batten_51 : decode cX11_batten 51 = .ok (.getfield 55, 3) := by decide +kernel
theorem dX11_batten_54 : decode cX11_batten 54 = .ok (.iload_n 1, 1) := by decide +kernel
theorem dX11_batten_55 : decode cX11_batten 55 = .ok (.iload_n 3, 1) := by decide +kernel
theorem dX11_batten_56 : decode cX11_batten 56 = .ok (.invokevirtual 256, 3) := by decide +kernel
theorem dX11_batten_59 : decode cX11_batten 59 = .ok (.i2l, 1) := by decide +kernel
theorem dX11_batten_60 : decode cX11_batten 60 = .ok (.lreturn, 1) := by decide +kernel
theorem dX11_lost_0 : decode cX11_lost 0 = .ok (.iload_n 3, 1) := by decide +kernel
theorem dX11_lost_1 : decode cX11_lost 1 = .ok (.iconst 0, 1) := by decide +kernel
theorem dX11_lost_2 : decode cX11_lost 2 = .ok (.iconst 1, 1) := by decide +kernel
theorem dX11_lost_3 : decode cX11_lost 3 = .ok (.invokestatic 100, 3) := by decide +kernel
theorem dX11_lost_6 : decode cX11_lost 6 = .ok (.ifCond .eq 15, 3) := by decide +kernel
theorem dX11_lost_9 : decode cX11_lost 9 = .ok (.aload_n 0, 1) := by decide +kernel
theorem dX11_lost_10 : decode cX11_lost 10 = .ok (.getfield 55, 3) := by decide +kernel
theorem dX11_lost_13 : decode cX11_lost 13 = .ok (.iload_n 1, 1) := by decide +kernel
theorem dX11_lost_14 : decode cX11_lost 14 = .ok (.iload_n 2, 1) := by decide +kernel
theorem dX11_lost_15 : decode cX11_lost 15 = .ok (.invokevirtual 247, 3) := by decide +kernel
theorem dX11_lost_18 : decode cX11_lost 18 = .ok (.ifCond .ne 5, 3) := by decide +kernel
theorem dX11_lost_21 : decode cX11_lost 21 = .ok (.iconst (-1), 1) := by decide +kernel
theorem dX11_lost_22 : decode cX11_lost 22 = .ok (.ireturn, 1) := by decide +kernel
theorem dX11_lost_23 : decode cX11_lost 23 = .ok (.aload_n 0, 1) := by decide +kernel
theorem dX11_lost_24 : decode cX11_lost 24 = .ok (.getfield 55, 3) := by decide +kernel
theorem dX11_lost_27 : decode cX11_lost 27 = .ok (.iload_n 1, 1) := by decide +kernel
theorem dX11_lost_28 : decode cX11_lost 28 = .ok (.iload_n 3, 1) := by decide +kernel
theorem dX11_lost_29 : decode cX11_lost 29 = .ok (.invokevirtual 259, 3) := by decide +kernel
theorem dX11_lost_32 : decode cX11_lost 32 = .ok (.ireturn, 1) := by decide +kernel
theorem dX11_size_0 : decode cX11_size 0 = .ok (.aload_n 0, 1) := by decide +kernel
theorem dX11_size_1 : decode cX11_size 1 = .ok (.getfield 39, 3) := by decide +kernel
theorem dX11_size_4 : decode cX11_size 4 = .ok (.iload_n 1, 1) := by decide +kernel
theorem dX11_size_5 : decode cX11_size 5 = .ok (.iload_n 2, 1) := by decide +kernel
theorem dX11_size_6 : decode cX11_size 6 = .ok (.iload_n 3, 1) := by decide +kernel
theorem dX11_size_7 : decode cX11_size 7 = .ok (.invokevirtual 159, 3) := by decide +kernel
theorem dX11_size_10 : decode cX11_size 10 = .ok (.istore 5, 2) := by decide +kernel
theorem dX11_size_12 : decode cX11_size 12 = .ok (.iload 5, 2) := by decide +kernel
theorem dX11_size_14 : decode cX11_size 14 = .ok (.ifCond .lt 28, 3) := by decide +kernel
theorem dX11_size_17 : decode cX11_size 17 = .ok (.iload 4, 2) := by decide +kernel
theorem dX11_size_19 : decode cX11_size 19 = .ok (.iconst 0, 1) := by decide +kernel
theorem dX11_size_20 : decode cX11_size 20 = .ok (.bipush 99, 2) := by decide +kernel
theorem dX11_size_22 : decode cX11_size 22 = .ok (.invokestatic 100, 3) := by decide +kernel
theorem dX11_size_25 : decode cX11_size 25 = .ok (.ifCond .eq 17, 3) := by decide +kernel
theorem dX11_size_28 : decode cX11_size 28 = .ok (.aload_n 0, 1) := by decide +kernel
theorem dX11_size_29 : decode cX11_size 29 = .ok (.getfield 71, 3) := by decide +kernel
theorem dX11_size_32 : decode cX11_size 32 = .ok (.iload 5, 2) := by decide +kernel
theorem dX11_size_34 : decode cX11_size 34 = .ok (.invokevirtual 262, 3) := by decide +kernel
theorem dX11_size_37 : decode cX11_size 37 = .ok (.bipush 60, 2) := by decide +kernel
theorem dX11_size_39 : decode cX11_size 39 = .ok (.if_icmp .lt 5, 3) := by decide +kernel
theorem dX11_size_42 : decode cX11_size 42 = .ok (.iconst 0, 1) := by decide +kernel
theorem dX11_size_43 : decode cX11_size 43 = .ok (.ireturn, 1) := by decide +kernel
theorem dX11_size_44 : decode cX11_size 44 = .ok (.aload_n 0, 1) := by decide +kernel
theorem dX11_size_45 : decode cX11_size 45 = .ok (.getfield 39, 3) := by decide +kernel
theorem dX11_size_48 : decode cX11_size 48 = .ok (.getfield 181, 3) := by decide +kernel
theorem dX11_size_51 : decode cX11_size 51 = .ok (.iload 5, 2) := by decide +kernel
theorem dX11_size_53 : decode cX11_size 53 = .ok (.iload 4, 2) := by decide +kernel
theorem dX11_size_55 : decode cX11_size 55 = .ok (.iastore, 1) := by decide +kernel
theorem dX11_size_56 : decode cX11_size 56 = .ok (.iconst 1, 1) := by decide +kernel
theorem dX11_size_57 : decode cX11_size 57 = .ok (.ireturn, 1) := by decide +kernel
theorem dX11_repairs_0 : decode cX11_repairs 0 = .ok (.iload_n 1, 1) := by decide +kernel
theorem dX11_repairs_1 : decode cX11_repairs 1 = .ok (.iconst 0, 1) := by decide +kernel
theorem dX11_repairs_2 : decode cX11_repairs 2 = .ok (.aload_n 0, 1) := by decide +kernel
theorem dX11_repairs_3 : decode cX11_repairs 3 = .ok (.getfield 39, 3) := by decide +kernel
theorem dX11_repairs_6 : decode cX11_repairs 6 = .ok (.getfield 265, 3) := by decide +kernel
theorem dX11_repairs_9 : decode cX11_repairs 9 = .ok (.iconst 1, 1) := by decide +kernel
theorem dX11_repairs_10 : decode cX11_repairs 10 = .ok (.isub, 1) := by decide +kernel
theorem dX11_repairs_11 : decode cX11_repairs 11 = .ok (.invokestatic 100, 3) := by decide +kernel
theorem dX11_repairs_14 : decode cX11_repairs 14 = .ok (.ifCond .eq 22, 3) := by decide +kernel
theorem dX11_repairs_17 : decode cX11_repairs 17 = .ok (.iload_n 2, 1) := by decide +kernel
theorem dX11_repairs_18 : decode cX11_repairs 18 = .ok (.iconst 0, 1) := by decide +kernel
theorem dX11_repairs_19 : decode cX11_repairs 19 = .ok (.bipush 99, 2) := by decide +kernel
theorem dX11_repairs_21 : decode cX11_repairs 21 = .ok (.invokestatic 100, 3) := by decide +kernel
theorem dX11_repairs_24 : decode cX11_repairs 24 = .ok (.ifCond .eq 12, 3) := by decide +kernel
theorem dX11_repairs_27 : decode cX11_repairs 27 = .ok (.iload_n 3, 1) := by decide +kernel
theorem dX11_repairs_28 : decode cX11_repairs 28 = .ok (.iconst 0, 1) := by decide +kernel
theorem dX11_repairs_29 : decode cX11_repairs 29 = .ok (.iconst 3, 1) := by decide +kernel
theorem dX11_repairs_30 : decode cX11_repairs 30 = .ok (.invokestatic 100, 3) := by decide +kernel
theorem dX11_repairs_33 : decode cX11_repairs 33 = .ok (.ifCond .ne 7, 3) := by decide +kernel
theorem dX11_repairs_36 : decode cX11_repairs 36 = .ok (.ldc2_w 268, 3) := by decide +kernel
theorem dX11_repairs_39 : decode cX11_repairs 39 = .ok (.lreturn, 1) := by decide +kernel
theorem dX11_repairs_40 : decode cX11_repairs 40 = .ok (.aload_n 0, 1) := by decide +kernel
theorem dX11_repairs_41 : decode cX11_repairs 41 = .ok (.getfield 71, 3) := by decide +kernel
theorem dX11_repairs_44 : decode cX11_repairs 44 = .ok (.iload_n 1, 1) := by decide +kernel
theorem dX11_repairs_45 : decode cX11_repairs 45 = .ok (.iload_n 2, 1) := by decide +kernel
theorem dX11_repairs_46 : decode cX11_repairs 46 = .ok (.invokevirtual 270, 3) := by decide +kernel
theorem dX11_repairs_49 : decode cX11_repairs 49 = .ok (.iload_n 3, 1) := by decide +kernel
theorem dX11_repairs_50 : decode cX11_repairs 50 = .ok (.lookupswitch 44 #[(0, 26), (1, 35)], 26) := by decide +kernel
theorem dX11_repairs_76 : decode cX11_repairs 76 = .ok (.aload_n 0, 1) := by decide +kernel
theorem dX11_repairs_77 : decode cX11_repairs 77 = .ok (.getfield 71, 3) := by decide +kernel
theorem dX11_repairs_80 : decode cX11_repairs 80 = .ok (.getfield 273, 3) := by decide +kernel
theorem dX11_repairs_83 : decode cX11_repairs 83 = .ok (.i2l, 1) := by decide +kernel
theorem dX11_repairs_84 : decode cX11_repairs 84 = .ok (.lreturn, 1) := by decide +kernel
theorem dX11_repairs_85 : decode cX11_repairs 85 = .ok (.aload_n 0, 1) := by decide +kernel
theorem dX11_repairs_86 : decode cX11_repairs 86 = .ok (.getfield 71, 3) := by decide +kernel
theorem dX11_repairs_89 : decode cX11_repairs 89 = .ok (.getfield 276, 3) := by decide +kernel
theorem dX11_repairs_92 : decode cX11_repairs 92 = .ok (.i2l, 1) := by decide +kernel
theorem dX11_repairs_93 : decode cX11_repairs 93 = .ok (.lreturn, 1) := by decide +kernel
theorem dX11_repairs_94 : decode cX11_repairs 94 = .ok (.aload_n 0, 1) := by decide +kernel
theorem dX11_repairs_95 : decode cX11_repairs 95 = .ok (.getfield 71, 3) := by decide +kernel
theorem dX11_repairs_98 : decode cX11_repairs 98 = .ok (.invokevirtual 279, 3) := by decide +kernel
theorem dX11_repairs_101 : decode cX11_repairs 101 = .ok (.aload_n 0, 1) := by decide +kernel
theorem dX11_repairs_102 : decode cX11_repairs 102 = .ok (.getfield 71, 3) := by decide +kernel
theorem dX11_repairs_105 : decode cX11_repairs 105 = .ok (.invokevirtual 283, 3) := by decide +kernel
theorem dX11_repairs_108 : decode cX11_repairs 108 = .ok (.iload_n 3, 1) := by decide +kernel
theorem dX11_repairs_109 : decode cX11_repairs 109 = .ok (.iconst 2, 1) := by decide +kernel
theorem dX11_repairs_110 : decode cX11_repairs 110 = .ok (.if_icmp .ne 7, 3) := by decide +kernel
theorem dX11_repairs_113 : decode cX11_repairs 113 = .ok (.iconst 1, 1) := by decide +kernel
theorem dX11_repairs_114 : decode cX11_repairs 114 = .ok (.goto 4, 3) := by decide +kernel
theorem dX11_repairs_117 : decode cX11_repairs 117 = .ok (.iconst 0, 1) := by decide +kernel
theorem dX11_repairs_118 : decode cX11_repairs 118 = .ok (.invokestatic 286, 3) := by decide +kernel
theorem dX11_repairs_121 : decode cX11_repairs 121 = .ok (.lreturn, 1) := by decide +kernel
theorem dX11_thole_0 : decode cX11_thole 0 = .ok (.iload_n 1, 1) := by decide +kernel
theorem dX11_thole_1 : decode cX11_thole 1 = .ok (.iconst 0, 1) := by decide +kernel
theorem dX11_thole_2 : decode cX11_thole 2 = .ok (.aload_n 0, 1) := by decide +kernel
theorem dX11_thole_3 : decode cX11_thole 3 = .ok (.getfield 39, 3) := by decide +kernel
theorem dX11_thole_6 : decode cX11_thole 6 = .ok (.getfield 235, 3) := by decide +kernel
theorem dX11_thole_9 : decode cX11_thole 9 = .ok (.iconst 1, 1) := by decide +kernel
theorem dX11_thole_10 : decode cX11_thole 10 = .ok (.isub, 1) := by decide +kernel
theorem dX11_thole_11 : decode cX11_thole 11 = .ok (.invokestatic 100, 3) := by decide +kernel
theorem dX11_thole_14 : decode cX11_thole 14 = .ok (.ifCond .eq 21, 3) := by decide +kernel
theorem dX11_thole_17 : decode cX11_thole 17 = .ok (.iload_n 2, 1) := by decide +kernel
theorem dX11_thole_18 : decode cX11_thole 18 = .ok (.iconst 0, 1) := by decide +kernel
theorem dX11_thole_19 : decode cX11_thole 19 = .ok (.iconst 1, 1) := by decide +kernel
theorem dX11_thole_20 : decode cX11_thole 20 = .ok (.invokestatic 100, 3) := by decide +kernel
theorem dX11_thole_23 : decode cX11_thole 23 = .ok (.ifCond .eq 12, 3) := by decide +kernel
theorem dX11_thole_26 : decode cX11_thole 26 = .ok (.iload_n 3, 1) := by decide +kernel
theorem dX11_thole_27 : decode cX11_thole 27 = .ok (.iconst (-1), 1) := by decide +kernel
theorem dX11_thole_28 : decode cX11_thole 28 = .ok (.iconst 1, 1) := by decide +kernel
theorem dX11_thole_29 : decode cX11_thole 29 = .ok (.invokestatic 100, 3) := by decide +kernel
theorem dX11_thole_32 : decode cX11_thole 32 = .ok (.ifCond .ne 5, 3) := by decide +kernel
theorem dX11_thole_35 : decode cX11_thole 35 = .ok (.iconst 0, 1) := by decide +kernel
theorem dX11_thole_36 : decode cX11_thole 36 = .ok (.ireturn, 1) := by decide +kernel
theorem dX11_thole_37 : decode cX11_thole 37 = .ok (.aload_n 0, 1) := by decide +kernel
theorem dX11_thole_38 : decode cX11_thole 38 = .ok (.getfield 78, 3) := by decide +kernel
theorem dX11_thole_41 : decode cX11_thole 41 = .ok (.iload_n 1, 1) := by decide +kernel
theorem dX11_thole_42 : decode cX11_thole 42 = .ok (.iload_n 2, 1) := by decide +kernel
theorem dX11_thole_43 : decode cX11_thole 43 = .ok (.iload_n 3, 1) := by decide +kernel
theorem dX11_thole_44 : decode cX11_thole 44 = .ok (.invokevirtual 290, 3) := by decide +kernel
theorem dX11_thole_47 : decode cX11_thole 47 = .ok (.iconst 1, 1) := by decide +kernel
theorem dX11_thole_48 : decode cX11_thole 48 = .ok (.ireturn, 1) := by decide +kernel
theorem dX11_oars_0 : decode cX11_oars 0 = .ok (.aload_n 0, 1) := by decide +kernel
theorem dX11_oars_1 : decode cX11_oars 1 = .ok (.getfield 39, 3) := by decide +kernel
theorem dX11_oars_4 : decode cX11_oars 4 = .ok (.invokevirtual 147, 3) := by decide +kernel
theorem dX11_oars_7 : decode cX11_oars 7 = .ok (.ifCond .ne 5, 3) := by decide +kernel
theorem dX11_oars_10 : decode cX11_oars 10 = .ok (.iconst (-1), 1) := by decide +kernel
theorem dX11_oars_11 : decode cX11_oars 11 = .ok (.ireturn, 1) := by decide +kernel
theorem dX11_oars_12 : decode cX11_oars 12 = .ok (.iload_n 1, 1) := by decide +kernel
theorem dX11_oars_13 : decode cX11_oars 13 = .ok (.tableswitch 63 0 3 #[31, 39, 47, 55], 31) := by decide +kernel
theorem dX11_oars_44 : decode cX11_oars 44 = .ok (.aload_n 0, 1) := by decide +kernel
theorem dX11_oars_45 : decode cX11_oars 45 = .ok (.getfield 78, 3) := by decide +kernel
theorem dX11_oars_48 : decode cX11_oars 48 = .ok (.invokevirtual 293, 3) := by decide +kernel
theorem dX11_oars_51 : decode cX11_oars 51 = .ok (.ireturn, 1) := by decide +kernel
theorem dX11_oars_52 : decode cX11_oars 52 = .ok (.aload_n 0, 1) := by decide +kernel
theorem dX11_oars_53 : decode cX11_oars 53 = .ok (.getfield 78, 3) := by decide +kernel
theorem dX11_oars_56 : decode cX11_oars 56 = .ok (.invokevirtual 296, 3) := by decide +kernel
theorem dX11_oars_59 : decode cX11_oars 59 = .ok (.ireturn, 1) := by decide +kernel
theorem dX11_oars_60 : decode cX11_oars 60 = .ok (.aload_n 0, 1) := by decide +kernel
theorem dX11_oars_61 : decode cX11_oars 61 = .ok (.getfield 78, 3) := by decide +kernel
theorem dX11_oars_64 : decode cX11_oars 64 = .ok (.invokevirtual 299, 3) := by decide +kernel
theorem dX11_oars_67 : decode cX11_oars 67 = .ok (.ireturn, 1) := by decide +kernel
theorem dX11_oars_68 : decode cX11_oars 68 = .ok (.aload_n 0, 1) := by decide +kernel
theorem dX11_oars_69 : decode cX11_oars 69 = .ok (.getfield 78, 3) := by decide +kernel
theorem dX11_oars_72 : decode cX11_oars 72 = .ok (.invokevirtual 302, 3) := by decide +kernel
theorem dX11_oars_75 : decode cX11_oars 75 = .ok (.ireturn, 1) := by decide +kernel
theorem dX11_oars_76 : decode cX11_oars 76 = .ok (.iconst (-1), 1) := by decide +kernel
theorem dX11_oars_77 : decode cX11_oars 77 = .ok (.ireturn, 1) := by decide +kernel
theorem dX11_pair_0 : decode cX11_pair 0 = .ok (.iload_n 1, 1) := by decide +kernel
theorem dX11_pair_1 : decode cX11_pair 1 = .ok (.iconst 0, 1) := by decide +kernel
theorem dX11_pair_2 : decode cX11_pair 2 = .ok (.aload_n 0, 1) := by decide +kernel
theorem dX11_pair_3 : decode cX11_pair 3 = .ok (.getfield 39, 3) := by decide +kernel
theorem dX11_pair_6 : decode cX11_pair 6 = .ok (.getfield 235, 3) := by decide +kernel
theorem dX11_pair_9 : decode cX11_pair 9 = .ok (.iconst 1, 1) := by decide +kernel
theorem dX11_pair_10 : decode cX11_pair 10 = .ok (.isub, 1) := by decide +kernel
theorem dX11_pair_11 : decode cX11_pair 11 = .ok (.invokestatic 100, 3) := by decide +kernel
theorem dX11_pair_14 : decode cX11_pair 14 = .ok (.ifCond .eq 12, 3) := by decide +kernel
theorem dX11_pair_17 : decode cX11_pair 17 = .ok (.iload_n 2, 1) := by decide +kernel
theorem dX11_pair_18 : decode cX11_pair 18 = .ok (.iconst 0, 1) := by decide +kernel
theorem dX11_pair_19 : decode cX11_pair 19 = .ok (.iconst 1, 1) := by decide +kernel
theorem dX11_pair_20 : decode cX11_pair 20 = .ok (.invokestatic 100, 3) := by decide +kernel
theorem dX11_pair_23 : decode cX11_pair 23 = .ok (.ifCond .ne 7, 3) := by decide +kernel
theorem dX11_pair_26 : decode cX11_pair 26 = .ok (.ldc2_w 268, 3) := by decide +kernel
theorem dX11_pair_29 : decode cX11_pair 29 = .ok (.lreturn, 1) := by decide +kernel
theorem dX11_pair_30 : decode cX11_pair 30 = .ok (.aload_n 0, 1) := by decide +kernel
theorem dX11_pair_31 : decode cX11_pair 31 = .ok (.getfield 78, 3) := by decide +kernel
theorem dX11_pair_34 : decode cX11_pair 34 = .ok (.invokevirtual 299, 3) := by decide +kernel
theorem dX11_pair_37 : decode cX11_pair 37 = .ok (.ifCond .ne 7, 3) := by decide +kernel
theorem dX11_pair_40 : decode cX11_pair 40 = .ok (.ldc2_w 305, 3) := by decide +kernel
theorem dX11_pair_43 : decode cX11_pair 43 = .ok (.lreturn, 1) := by decide +kernel
theorem dX11_pair_44 : decode cX11_pair 44 = .ok (.aload_n 0, 1) := by decide +kernel
theorem dX11_pair_45 : decode cX11_pair 45 = .ok (.getfield 78, 3) := by decide +kernel
theorem dX11_pair_48 : decode cX11_pair 48 = .ok (.iload_n 1, 1) := by decide +kernel
theorem dX11_pair_49 : decode cX11_pair 49 = .ok (.iconst 0, 1) := by decide +kernel
theorem dX11_pair_50 : decode cX11_pair 50 = .ok (.invokevirtual 307, 3) := by decide +kernel
theorem dX11_pair_53 : decode cX11_pair 53 = .ok (.i2l, 1) := by decide +kernel
theorem dX11_pair_54 : decode cX11_pair 54 = .ok (.aload_n 0, 1) := by decide +kernel
theorem dX11_pair_55 : decode cX11_pair 55 = .ok (.getfield 78, 3) := by decide +kernel
theorem dX11_pair_58 : decode cX11_pair 58 = .ok (.iload_n 1, 1) := by decide +kernel
theorem dX11_pair_59 : decode cX11_pair 59 = .ok (.iconst 1, 1) := by decide +kernel
theorem dX11_pair_60 : decode cX11_pair 60 = .ok (.invokevirtual 307, 3) := by decide +kernel
theorem dX11_pair_63 : decode cX11_pair 63 = .ok (.i2l, 1) := by decide +kernel
theorem dX11_pair_64 : decode cX11_pair 64 = .ok (.lmul, 1) := by decide +kernel
theorem dX11_pair_65 : decode cX11_pair 65 = .ok (.lstore_n 3, 1) := by decide +kernel
theorem dX11_pair_66 : decode cX11_pair 66 = .ok (.aload_n 0, 1) := by decide +kernel
theorem dX11_pair_67 : decode cX11_pair 67 = .ok (.getfield 78, 3) := by decide +kernel
theorem dX11_pair_70 : decode cX11_pair 70 = .ok (.iload_n 1, 1) := by decide +kernel
theorem dX11_pair_71 : decode cX11_pair 71 = .ok (.iconst 0, 1) := by decide +kernel
theorem dX11_pair_72 : decode cX11_pair 72 = .ok (.invokevirtual 310, 3) := by decide +kernel
theorem dX11_pair_75 : decode cX11_pair 75 = .ok (.i2l, 1) := by decide +kernel
theorem dX11_pair_76 : decode cX11_pair 76 = .ok (.aload_n 0, 1) := by decide +kernel
theorem dX11_pair_77 : decode cX11_pair 77 = .ok (.getfield 78, 3) := by decide +kernel
theorem dX11_pair_80 : decode cX11_pair 80 = .ok (.iload_n 1, 1) := by decide +kernel
theorem dX11_pair_81 : decode cX11_pair 81 = .ok (.iconst 1, 1) := by decide +kernel
theorem dX11_pair_82 : decode cX11_pair 82 = .ok (.invokevirtual 310, 3) := by decide +kernel
theorem dX11_pair_85 : decode cX11_pair 85 = .ok (.i2l, 1) := by decide +kernel
theorem dX11_pair_86 : decode cX11_pair 86 = .ok (.lmul, 1) := by decide +kernel
theorem dX11_pair_87 : decode cX11_pair 87 = .ok (.lstore 5, 2) := by decide +kernel
theorem dX11_pair_89 : decode cX11_pair 89 = .ok (.lload_n 3, 1) := by decide +kernel
theorem dX11_pair_90 : decode cX11_pair 90 = .ok (.lload 5, 2) := by decide +kernel
theorem dX11_pair_92 : decode cX11_pair 92 = .ok (.iload_n 2, 1) := by decide +kernel
theorem dX11_pair_93 : decode cX11_pair 93 = .ok (.ifCond .ne 7, 3) := by decide +kernel
theorem dX11_pair_96 : decode cX11_pair 96 = .ok (.iconst 1, 1) := by decide +kernel
theorem dX11_pair_97 : decode cX11_pair 97 = .ok (.goto 4, 3) := by decide +kernel
theorem dX11_pair_100 : decode cX11_pair 100 = .ok (.iconst 0, 1) := by decide +kernel
theorem dX11_pair_101 : decode cX11_pair 101 = .ok (.invokestatic 286, 3) := by decide +kernel
theorem dX11_pair_104 : decode cX11_pair 104 = .ok (.lreturn, 1) := by decide +kernel
theorem dX11_phosphor_0 : decode cX11_phosphor 0 = .ok (.iload_n 1, 1) := by decide +kernel
theorem dX11_phosphor_1 : decode cX11_phosphor 1 = .ok (.iconst 0, 1) := by decide +kernel
theorem dX11_phosphor_2 : decode cX11_phosphor 2 = .ok (.bipush 11, 2) := by decide +kernel
theorem dX11_phosphor_4 : decode cX11_phosphor 4 = .ok (.invokestatic 100, 3) := by decide +kernel
theorem dX11_phosphor_7 : decode cX11_phosphor 7 = .ok (.ifCond .eq 23, 3) := by decide +kernel
theorem dX11_phosphor_10 : decode cX11_phosphor 10 = .ok (.iload_n 2, 1) := by decide +kernel
theorem dX11_phosphor_11 : decode cX11_phosphor 11 = .ok (.iconst 0, 1) := by decide +kernel
theorem dX11_phosphor_12 : decode cX11_phosphor 12 = .ok (.iconst 5, 1) := by decide +kernel
theorem dX11_phosphor_13 : decode cX11_phosphor 13 = .ok (.invokestatic 100, 3) := by decide +kernel
theorem dX11_phosphor_16 : decode cX11_phosphor 16 = .ok (.ifCond .eq 14, 3) := by decide +kernel
theorem dX11_phosphor_19 : decode cX11_phosphor 19 = .ok (.iload_n 3, 1) := by decide +kernel
theorem dX11_phosphor_20 : decode cX11_phosphor 20 = .ok (.iconst 0, 1) := by decide +kernel
theorem dX11_phosphor_21 : decode cX11_phosphor 21 = .ok (.sipush 999, 3) := by decide +kernel
theorem dX11_phosphor_24 : decode cX11_phosphor 24 = .ok (.invokestatic 100, 3) := by decide +kernel
theorem dX11_phosphor_27 : decode cX11_phosphor 27 = .ok (.ifCond .ne 5, 3) := by decide +kernel
theorem dX11_phosphor_30 : decode cX11_phosphor 30 = .ok (.iconst 0, 1) := by decide +kernel
theorem dX11_phosphor_31 : decode cX11_phosphor 31 = .ok (.ireturn, 1) := by decide +kernel
theorem dX11_phosphor_32 : decode cX11_phosphor 32 = .ok (.aload_n 0, 1) := by decide +kernel
theorem dX11_phosphor_33 : decode cX11_phosphor 33 = .ok (.getfield 85, 3) := by decide +kernel
theorem dX11_phosphor_36 : decode cX11_phosphor 36 = .ok (.iload_n 1, 1) := by decide +kernel
theorem dX11_phosphor_37 : decode cX11_phosphor 37 = .ok (.iload_n 2, 1) := by decide +kernel
theorem dX11_phosphor_38 : decode cX11_phosphor 38 = .ok (.iload_n 3, 1) := by decide +kernel
theorem dX11_phosphor_39 : decode cX11_phosphor 39 = .ok (.invokevirtual 313, 3) := by decide +kernel
theorem dX11_phosphor_42 : decode cX11_phosphor 42 = .ok (.iconst 1, 1) := by decide +kernel
theorem dX11_phosphor_43 : decode cX11_phosphor 43 = .ok (.ireturn, 1) := by decide +kernel
theorem dX11_body_0 : decode cX11_body 0 = .ok (.iload_n 1, 1) := by decide +kernel
theorem dX11_body_1 : decode cX11_body 1 = .ok (.iconst 1, 1) := by decide +kernel
theorem dX11_body_2 : decode cX11_body 2 = .ok (.bipush 12, 2) := by decide +kernel
theorem dX11_body_4 : decode cX11_body 4 = .ok (.invokestatic 100, 3) := by decide +kernel
theorem dX11_body_7 : decode cX11_body 7 = .ok (.ifCond .eq 22, 3) := by decide +kernel
theorem dX11_body_10 : decode cX11_body 10 = .ok (.iload_n 2, 1) := by decide +kernel
theorem dX11_body_11 : decode cX11_body 11 = .ok (.iconst 1, 1) := by decide +kernel
theorem dX11_body_12 : decode cX11_body 12 = .ok (.bipush 6, 2) := by decide +kernel
theorem dX11_body_14 : decode cX11_body 14 = .ok (.invokestatic 100, 3) := by decide +kernel
theorem dX11_body_17 : decode cX11_body 17 = .ok (.ifCond .eq 12, 3) := by decide +kernel
theorem dX11_body_20 : decode cX11_body 20 = .ok (.iload_n 3, 1) := by decide +kernel
theorem dX11_body_21 : decode cX11_body 21 = .ok (.iconst 0, 1) := by decide +kernel
theorem dX11_body_22 : decode cX11_body 22 = .ok (.iconst 4, 1) := by decide +kernel
theorem dX11_body_23 : decode cX11_body 23 = .ok (.invokestatic 100, 3) := by decide +kernel
theorem dX11_body_26 : decode cX11_body 26 = .ok (.ifCond .ne 5, 3) := by decide +kernel
theorem dX11_body_29 : decode cX11_body 29 = .ok (.iconst (-1), 1) := by decide +kernel
theorem dX11_body_30 : decode cX11_body 30 = .ok (.ireturn, 1) := by decide +kernel
theorem dX11_body_31 : decode cX11_body 31 = .ok (.aload_n 0, 1) := by decide +kernel
theorem dX11_body_32 : decode cX11_body 32 = .ok (.getfield 85, 3) := by decide +kernel
theorem dX11_body_35 : decode cX11_body 35 = .ok (.iload_n 1, 1) := by decide +kernel
theorem dX11_body_36 : decode cX11_body 36 = .ok (.iload_n 2, 1) := by decide +kernel
theorem dX11_body_37 : decode cX11_body 37 = .ok (.invokevirtual 315, 3) := by decide +kernel
theorem dX11_body_40 : decode cX11_body 40 = .ok (.iload_n 3, 1) := by decide +kernel
theorem dX11_body_41 : decode cX11_body 41 = .ok (.tableswitch 63 0 3 #[31, 39, 47, 55], 31) := by decide +kernel
theorem dX11_body_72 : decode cX11_body 72 = .ok (.aload_n 0, 1) := by decide +kernel
theorem dX11_body_73 : decode cX11_body 73 = .ok (.getfield 85, 3) := by decide +kernel
theorem dX11_body_76 : decode cX11_body 76 = .ok (.getfield 318, 3) := by decide +kernel
theorem dX11_body_79 : decode cX11_body 79 = .ok (.ireturn, 1) := by decide +kernel
theorem dX11_body_80 : decode cX11_body 80 = .ok (.aload_n 0, 1) := by decide +kernel
theorem dX11_body_81 : decode cX11_body 81 = .ok (.getfield 85, 3) := by decide +kernel
theorem dX11_body_84 : decode cX11_body 84 = .ok (.getfield 321, 3) := by decide +kernel
theorem dX11_body_87 : decode cX11_body 87 = .ok (.ireturn, 1) := by decide +kernel
theorem dX11_body_88 : decode cX11_body 88 = .ok (.aload_n 0, 1) := by decide +kernel
theorem dX11_body_89 : decode cX11_body 89 = .ok (.getfield 85, 3) := by decide +kernel
theorem dX11_body_92 : decode cX11_body 92 = .ok (.getfield 324, 3) := by decide +kernel
theorem dX11_body_95 : decode cX11_body 95 = .ok (.ireturn, 1) := by decide +kernel
theorem dX11_body_96 : decode cX11_body 96 = .ok (.aload_n 0, 1) := by decide +kernel
theorem dX11_body_97 : decode cX11_body 97 = .ok (.getfield 85, 3) := by decide +kernel
theorem dX11_body_100 : decode cX11_body 100 = .ok (.getfield 327, 3) := by decide +kernel
theorem dX11_body_103 : decode cX11_body 103 = .ok (.ireturn, 1) := by decide +kernel
theorem dX11_body_104 : decode cX11_body 104 = .ok (.aload_n 0, 1) := by decide +kernel
theorem dX11_body_105 : decode cX11_body 105 = .ok (.getfield 85, 3) := by decide +kernel
theorem dX11_body_108 : decode cX11_body 108 = .ok (.getfield 330, 3) := by decide +kernel
theorem dX11_body_111 : decode cX11_body 111 = .ok (.ireturn, 1) := by decide +kernel
theorem dX11_story_0 : decode cX11_story 0 = .ok (.iload_n 1, 1) := by decide +kernel
theorem dX11_story_1 : decode cX11_story 1 = .ok (.iconst 0, 1) := by decide +kernel
theorem dX11_story_2 : decode cX11_story 2 = .ok (.iconst 5, 1) := by decide +kernel
theorem dX11_story_3 : decode cX11_story 3 = .ok (.invokestatic 100, 3) := by decide +kernel
theorem dX11_story_6 : decode cX11_story 6 = .ok (.ifCond .eq 23, 3) := by decide +kernel
theorem dX11_story_9 : decode cX11_story 9 = .ok (.iload_n 2, 1) := by decide +kernel
theorem dX11_story_10 : decode cX11_story 10 = .ok (.iconst 0, 1) := by decide +kernel
theorem dX11_story_11 : decode cX11_story 11 = .ok (.iconst 5, 1) := by decide +kernel
theorem dX11_story_12 : decode cX11_story 12 = .ok (.invokestatic 100, 3) := by decide +kernel
theorem dX11_story_15 : decode cX11_story 15 = .ok (.ifCond .eq 14, 3) := by decide +kernel
theorem dX11_story_18 : decode cX11_story 18 = .ok (.iload_n 3, 1) := by decide +kernel
theorem dX11_story_19 : decode cX11_story 19 = .ok (.iconst 0, 1) := by decide +kernel
theorem dX11_story_20 : decode cX11_story 20 = .ok (.sipush 1000, 3) := by decide +kernel
theorem dX11_story_23 : decode cX11_story 23 = .ok (.invokestatic 100, 3) := by decide +kernel
theorem dX11_story_26 : decode cX11_story 26 = .ok (.ifCond .ne 5, 3) := by decide +kernel
theorem dX11_story_29 : decode cX11_story 29 = .ok (.iconst 0, 1) := by decide +kernel
theorem dX11_story_30 : decode cX11_story 30 = .ok (.ireturn, 1) := by decide +kernel
theorem dX11_story_31 : decode cX11_story 31 = .ok (.aload_n 0, 1) := by decide +kernel
theorem dX11_story_32 : decode cX11_story 32 = .ok (.getfield 92, 3) := by decide +kernel
theorem dX11_story_35 : decode cX11_story 35 = .ok (.iload_n 1, 1) := by decide +kernel
theorem dX11_story_36 : decode cX11_story 36 = .ok (.iload_n 2, 1) := by decide +kernel
theorem dX11_story_37 : decode cX11_story 37 = .ok (.iload_n 3, 1) := by decide +kernel
theorem dX11_story_38 : decode cX11_story 38 = .ok (.invokevirtual 333, 3) := by decide +kernel
theorem dX11_story_41 : decode cX11_story 41 = .ok (.iconst 1, 1) := by decide +kernel
theorem dX11_story_42 : decode cX11_story 42 = .ok (.ireturn, 1) := by decide +kernel
theorem dX11_sign_0 : decode cX11_sign 0 = .ok (.iload_n 1, 1) := by decide +kernel
theorem dX11_sign_1 : decode cX11_sign 1 = .ok (.iconst 0, 1) := by decide +kernel
theorem dX11_sign_2 : decode cX11_sign 2 = .ok (.iconst 5, 1) := by decide +kernel
theorem dX11_sign_3 : decode cX11_sign 3 = .ok (.invokestatic 100, 3) := by decide +kernel
theorem dX11_sign_6 : decode cX11_sign 6 = .ok (.ifCond .eq 12, 3) := by decide +kernel
theorem dX11_sign_9 : decode cX11_sign 9 = .ok (.iload_n 2, 1) := by decide +kernel
theorem dX11_sign_10 : decode cX11_sign 10 = .ok (.iconst (-1), 1) := by decide +kernel
theorem dX11_sign_11 : decode cX11_sign 11 = .ok (.iconst 1, 1) := by decide +kernel
theorem dX11_sign_12 : decode cX11_sign 12 = .ok (.invokestatic 100, 3) := by decide +kernel
theorem dX11_sign_15 : decode cX11_sign 15 = .ok (.ifCond .ne 5, 3) := by decide +kernel
theorem dX11_sign_18 : decode cX11_sign 18 = .ok (.iconst 0, 1) := by decide +kernel
theorem dX11_sign_19 : decode cX11_sign 19 = .ok (.ireturn, 1) := by decide +kernel
theorem dX11_sign_20 : decode cX11_sign 20 = .ok (.aload_n 0, 1) := by decide +kernel
theorem dX11_sign_21 : decode cX11_sign 21 = .ok (.getfield 92, 3) := by decide +kernel
theorem dX11_sign_24 : decode cX11_sign 24 = .ok (.getfield 334, 3) := by decide +kernel
theorem dX11_sign_27 : decode cX11_sign 27 = .ok (.iload_n 1, 1) := by decide +kernel
theorem dX11_sign_28 : decode cX11_sign 28 = .ok (.iload_n 2, 1) := by decide +kernel
theorem dX11_sign_29 : decode cX11_sign 29 = .ok (.iastore, 1) := by decide +kernel
theorem dX11_sign_30 : decode cX11_sign 30 = .ok (.iconst 1, 1) := by decide +kernel
theorem dX11_sign_31 : decode cX11_sign 31 = .ok (.ireturn, 1) := by decide +kernel
theorem dX11_odds_0 : decode cX11_odds 0 = .ok (.iload_n 1, 1) := by decide +kernel
theorem dX11_odds_1 : decode cX11_odds 1 = .ok (.iconst (-1), 1) := by decide +kernel
theorem dX11_odds_2 : decode cX11_odds 2 = .ok (.if_icmp .ne 11, 3) := by decide +kernel
theorem dX11_odds_5 : decode cX11_odds 5 = .ok (.aload_n 0, 1) := by decide +kernel
theorem dX11_odds_6 : decode cX11_odds 6 = .ok (.getfield 92, 3) := by decide +kernel
theorem dX11_odds_9 : decode cX11_odds 9 = .ok (.invokevirtual 337, 3) := by decide +kernel
theorem dX11_odds_12 : decode cX11_odds 12 = .ok (.lreturn, 1) := by decide +kernel
theorem dX11_odds_13 : decode cX11_odds 13 = .ok (.iload_n 1, 1) := by decide +kernel
theorem dX11_odds_14 : decode cX11_odds 14 = .ok (.iconst 0, 1) := by decide +kernel
theorem dX11_odds_15 : decode cX11_odds 15 = .ok (.iconst 5, 1) := by decide +kernel
theorem dX11_odds_16 : decode cX11_odds 16 = .ok (.invokestatic 100, 3) := by decide +kernel
theorem dX11_odds_19 : decode cX11_odds 19 = .ok (.ifCond .eq 15, 3) := by decide +kernel
theorem dX11_odds_22 : decode cX11_odds 22 = .ok (.aload_n 0, 1) := by decide +kernel
theorem dX11_odds_23 : decode cX11_odds 23 = .ok (.getfield 92, 3) := by decide +kernel
theorem dX11_odds_26 : decode cX11_odds 26 = .ok (.getfield 340, 3) := by decide +kernel
theorem dX11_odds_29 : decode cX11_odds 29 = .ok (.iload_n 1, 1) := by decide +kernel
theorem dX11_odds_30 : decode cX11_odds 30 = .ok (.baload, 1) := by decide +kernel
theorem dX11_odds_31 : decode cX11_odds 31 = .ok (.ifCond .ne 7, 3) := by decide +kernel
theorem dX11_odds_34 : decode cX11_odds 34 = .ok (.ldc2_w 268, 3) := by decide +kernel
theorem dX11_odds_37 : decode cX11_odds 37 = .ok (.lreturn, 1) := by decide +kernel
theorem dX11_odds_38 : decode cX11_odds 38 = .ok (.aload_n 0, 1) := by decide +kernel
theorem dX11_odds_39 : decode cX11_odds 39 = .ok (.getfield 92, 3) := by decide +kernel
theorem dX11_odds_42 : decode cX11_odds 42 = .ok (.iload_n 1, 1) := by decide +kernel
theorem dX11_odds_43 : decode cX11_odds 43 = .ok (.invokevirtual 343, 3) := by decide +kernel
theorem dX11_odds_46 : decode cX11_odds 46 = .ok (.lreturn, 1) := by decide +kernel
theorem dX11_next_0 : decode cX11_next 0 = .ok (.iload_n 1, 1) := by decide +kernel
theorem dX11_next_1 : decode cX11_next 1 = .ok (.iconst 0, 1) := by decide +kernel
theorem dX11_next_2 : decode cX11_next 2 = .ok (.iconst 1, 1) := by decide +kernel
theorem dX11_next_3 : decode cX11_next 3 = .ok (.invokestatic 100, 3) := by decide +kernel
theorem dX11_next_6 : decode cX11_next 6 = .ok (.ifCond .eq 13, 3) := by decide +kernel
theorem dX11_next_9 : decode cX11_next 9 = .ok (.aload_n 0, 1) := by decide +kernel
theorem dX11_next_10 : decode cX11_next 10 = .ok (.getfield 92, 3) := by decide +kernel
theorem dX11_next_13 : decode cX11_next 13 = .ok (.invokevirtual 347, 3) := by decide +kernel
theorem dX11_next_16 : decode cX11_next 16 = .ok (.ifCond .ne 5, 3) := by decide +kernel
theorem dX11_next_19 : decode cX11_next 19 = .ok (.iconst (-1), 1) := by decide +kernel
theorem dX11_next_20 : decode cX11_next 20 = .ok (.ireturn, 1) := by decide +kernel
theorem dX11_next_21 : decode cX11_next 21 = .ok (.aload_n 0, 1) := by decide +kernel
theorem dX11_next_22 : decode cX11_next 22 = .ok (.getfield 92, 3) := by decide +kernel
theorem dX11_next_25 : decode cX11_next 25 = .ok (.invokevirtual 350, 3) := by decide +kernel
theorem dX11_next_28 : decode cX11_next 28 = .ok (.istore_n 2, 1) := by decide +kernel
theorem dX11_next_29 : decode cX11_next 29 = .ok (.iload_n 2, 1) := by decide +kernel
theorem dX11_next_30 : decode cX11_next 30 = .ok (.ifCond .ge 5, 3) := by decide +kernel
theorem dX11_next_33 : decode cX11_next 33 = .ok (.iconst (-1), 1) := by decide +kernel
theorem dX11_next_34 : decode cX11_next 34 = .ok (.ireturn, 1) := by decide +kernel
theorem dX11_next_35 : decode cX11_next 35 = .ok (.iload_n 1, 1) := by decide +kernel
theorem dX11_next_36 : decode cX11_next 36 = .ok (.ifCond .ne 7, 3) := by decide +kernel
theorem dX11_next_39 : decode cX11_next 39 = .ok (.iload_n 2, 1) := by decide +kernel
theorem dX11_next_40 : decode cX11_next 40 = .ok (.goto 11, 3) := by decide +kernel
theorem dX11_next_43 : decode cX11_next 43 = .ok (.aload_n 0, 1) := by decide +kernel
theorem dX11_next_44 : decode cX11_next 44 = .ok (.getfield 92, 3) := by decide +kernel
theorem dX11_next_47 : decode cX11_next 47 = .ok (.iload_n 2, 1) := by decide +kernel
theorem dX11_next_48 : decode cX11_next 48 = .ok (.invokevirtual 353, 3) := by decide +kernel
theorem dX11_next_51 : decode cX11_next 51 = .ok (.ireturn, 1) := by decide +kernel
theorem dX11_area_0 : decode cX11_area 0 = .ok (.iload_n 1, 1) := by decide +kernel
theorem dX11_area_1 : decode cX11_area 1 = .ok (.iconst 0, 1) := by decide +kernel
theorem dX11_area_2 : decode cX11_area 2 = .ok (.aload_n 0, 1) := by decide +kernel
theorem dX11_area_3 : decode cX11_area 3 = .ok (.getfield 39, 3) := by decide +kernel
theorem dX11_area_6 : decode cX11_area 6 = .ok (.getfield 235, 3) := by decide +kernel
theorem dX11_area_9 : decode cX11_area 9 = .ok (.iconst 1, 1) := by decide +kernel
theorem dX11_area_10 : decode cX11_area 10 = .ok (.isub, 1) := by decide +kernel
theorem dX11_area_11 : decode cX11_area 11 = .ok (.invokestatic 100, 3) := by decide +kernel
theorem dX11_area_14 : decode cX11_area 14 = .ok (.ifCond .eq 52, 3) := by decide +kernel
theorem dX11_area_17 : decode cX11_area 17 = .ok (.iload 4, 2) := by decide +kernel
theorem dX11_area_19 : decode cX11_area 19 = .ok (.iconst 0, 1) := by decide +kernel
theorem dX11_area_20 : decode cX11_area 20 = .ok (.aload_n 0, 1) := by decide +kernel
theorem dX11_area_21 : decode cX11_area 21 = .ok (.getfield 39, 3) := by decide +kernel
theorem dX11_area_24 : decode cX11_area 24 = .ok (.getfield 265, 3) := by decide +kernel
theorem dX11_area_27 : decode cX11_area 27 = .ok (.iconst 1, 1) := by decide +kernel
theorem dX11_area_28 : decode cX11_area 28 = .ok (.isub, 1) := by decide +kernel
theorem dX11_area_29 : decode cX11_area 29 = .ok (.invokestatic 100, 3) := by decide +kernel
theorem dX11_area_32 : decode cX11_area 32 = .ok (.ifCond .eq 34, 3) := by decide +kernel
theorem dX11_area_35 : decode cX11_area 35 = .ok (.iload_n 2, 1) := by decide +kernel
theorem dX11_area_36 : decode cX11_area 36 = .ok (.iconst 1, 1) := by decide +kernel
theorem dX11_area_37 : decode cX11_area 37 = .ok (.sipush 200, 3) := by decide +kernel
theorem dX11_area_40 : decode cX11_area 40 = .ok (.invokestatic 100, 3) := by decide +kernel
theorem dX11_area_43 : decode cX11_area 43 = .ok (.ifCond .eq 23, 3) := by decide +kernel
theorem dX11_area_46 : decode cX11_area 46 = .ok (.aload_n 0, 1) := by decide +kernel
theorem dX11_area_47 : decode cX11_area 47 = .ok (.getfield 64, 3) := by decide +kernel
theorem dX11_area_50 : decode cX11_area 50 = .ok (.aload_n 0, 1) := by decide +kernel
theorem dX11_area_51 : decode cX11_area 51 = .ok (.getfield 39, 3) := by decide +kernel
theorem dX11_area_54 : decode cX11_area 54 = .ok (.getfield 265, 3) := by decide +kernel
theorem dX11_area_57 : decode cX11_area 57 = .ok (.iconst 1, 1) := by decide +kernel
theorem dX11_area_58 : decode cX11_area 58 = .ok (.isub, 1) := by decide +kernel
theorem dX11_area_59 : decode cX11_area 59 = .ok (.iload_n 3, 1) := by decide +kernel
theorem dX11_area_60 : decode cX11_area 60 = .ok (.invokevirtual 356, 3) := by decide +kernel
theorem dX11_area_63 : decode cX11_area 63 = .ok (.ifCond .ne 7, 3) := by decide +kernel
theorem dX11_area_66 : decode cX11_area 66 = .ok (.ldc2_w 268, 3) := by decide +kernel
theorem dX11_area_69 : decode cX11_area 69 = .ok (.lreturn, 1) := by decide +kernel
theorem dX11_area_70 : decode cX11_area 70 = .ok (.aload_n 0, 1) := by decide +kernel
theorem dX11_area_71 : decode cX11_area 71 = .ok (.getfield 64, 3) := by decide +kernel
theorem dX11_area_74 : decode cX11_area 74 = .ok (.iload_n 1, 1) := by decide +kernel
theorem dX11_area_75 : decode cX11_area 75 = .ok (.iload_n 2, 1) := by decide +kernel
theorem dX11_area_76 : decode cX11_area 76 = .ok (.iload 4, 2) := by decide +kernel
theorem dX11_area_78 : decode cX11_area 78 = .ok (.invokevirtual 359, 3) := by decide +kernel
theorem dX11_area_81 : decode cX11_area 81 = .ok (.lreturn, 1) := by decide +kernel
theorem dX11_volume_0 : decode cX11_volume 0 = .ok (.iload_n 3, 1) := by decide +kernel
theorem dX11_volume_1 : decode cX11_volume 1 = .ok (.iconst 0, 1) := by decide +kernel
theorem dX11_volume_2 : decode cX11_volume 2 = .ok (.aload_n 0, 1) := by decide +kernel
theorem dX11_volume_3 : decode cX11_volume 3 = .ok (.getfield 39, 3) := by decide +kernel
theorem dX11_volume_6 : decode cX11_volume 6 = .ok (.getfield 265, 3) := by decide +kernel
theorem dX11_volume_9 : decode cX11_volume 9 = .ok (.iconst 1, 1) := by decide +kernel
theorem dX11_volume_10 : decode cX11_volume 10 = .ok (.isub, 1) := by decide +kernel
theorem dX11_volume_11 : decode cX11_volume 11 = .ok (.invokestatic 100, 3) := by decide +kernel
theorem dX11_volume_14 : decode cX11_volume 14 = .ok (.ifCond .eq 34, 3) := by decide +kernel
theorem dX11_volume_17 : decode cX11_volume 17 = .ok (.iload_n 1, 1) := by decide +kernel
theorem dX11_volume_18 : decode cX11_volume 18 = .ok (.iconst 1, 1) := by decide +kernel
theorem dX11_volume_19 : decode cX11_volume 19 = .ok (.sipush 200, 3) := by decide +kernel
theorem dX11_volume_22 : decode cX11_volume 22 = .ok (.invokestatic 100, 3) := by decide +kernel
theorem dX11_volume_25 : decode cX11_volume 25 = .ok (.ifCond .eq 23, 3) := by decide +kernel
theorem dX11_volume_28 : decode cX11_volume 28 = .ok (.aload_n 0, 1) := by decide +kernel
theorem dX11_volume_29 : decode cX11_volume 29 = .ok (.getfield 64, 3) := by decide +kernel
theorem dX11_volume_32 : decode cX11_volume 32 = .ok (.aload_n 0, 1) := by decide +kernel
theorem dX11_volume_33 : decode cX11_volume 33 = .ok (.getfield 39, 3) := by decide +kernel
theorem dX11_volume_36 : decode cX11_volume 36 = .ok (.getfield 265, 3) := by decide +kernel
theorem dX11_volume_39 : decode cX11_volume 39 = .ok (.iconst 1, 1) := by decide +kernel
theorem dX11_volume_40 : decode cX11_volume 40 = .ok (.isub, 1) := by decide +kernel
theorem dX11_volume_41 : decode cX11_volume 41 = .ok (.iload_n 2, 1) := by decide +kernel
theorem dX11_volume_42 : decode cX11_volume 42 = .ok (.invokevirtual 356, 3) := by decide +kernel
theorem dX11_volume_45 : decode cX11_volume 45 = .ok (.ifCond .ne 7, 3) := by decide +kernel
theorem dX11_volume_48 : decode cX11_volume 48 = .ok (.ldc2_w 268, 3) := by decide +kernel
theorem dX11_volume_51 : decode cX11_volume 51 = .ok (.lreturn, 1) := by decide +kernel
theorem dX11_volume_52 : decode cX11_volume 52 = .ok (.aload_n 0, 1) := by decide +kernel
theorem dX11_volume_53 : decode cX11_volume 53 = .ok (.getfield 64, 3) := by decide +kernel
theorem dX11_volume_56 : decode cX11_volume 56 = .ok (.iload_n 1, 1) := by decide +kernel
theorem dX11_volume_57 : decode cX11_volume 57 = .ok (.iload_n 3, 1) := by decide +kernel
theorem dX11_volume_58 : decode cX11_volume 58 = .ok (.aload_n 0, 1) := by decide +kernel
theorem dX11_volume_59 : decode cX11_volume 59 = .ok (.getfield 96, 3) := by decide +kernel
theorem dX11_volume_62 : decode cX11_volume 62 = .ok (.invokevirtual 363, 3) := by decide +kernel
theorem dX11_volume_65 : decode cX11_volume 65 = .ok (.lreturn, 1) := by decide +kernel
theorem dX11_depth_0 : decode cX11_depth 0 = .ok (.iload_n 3, 1) := by decide +kernel
theorem dX11_depth_1 : decode cX11_depth 1 = .ok (.iconst 0, 1) := by decide +kernel
theorem dX11_depth_2 : decode cX11_depth 2 = .ok (.ldc_w 366, 3) := by decide +kernel
theorem dX11_depth_5 : decode cX11_depth 5 = .ok (.invokestatic 100, 3) := by decide +kernel
theorem dX11_depth_8 : decode cX11_depth 8 = .ok (.ifCond .eq 34, 3) := by decide +kernel
theorem dX11_depth_11 : decode cX11_depth 11 = .ok (.iload_n 1, 1) := by decide +kernel
theorem dX11_depth_12 : decode cX11_depth 12 = .ok (.iconst 1, 1) := by decide +kernel
theorem dX11_depth_13 : decode cX11_depth 13 = .ok (.sipush 200, 3) := by decide +kernel
theorem dX11_depth_16 : decode cX11_depth 16 = .ok (.invokestatic 100, 3) := by decide +kernel
theorem dX11_depth_19 : decode cX11_depth 19 = .ok (.ifCond .eq 23, 3) := by decide +kernel
theorem dX11_depth_22 : decode cX11_depth 22 = .ok (.aload_n 0, 1) := by decide +kernel
theorem dX11_depth_23 : decode cX11_depth 23 = .ok (.getfield 64, 3) := by decide +kernel
theorem dX11_depth_26 : decode cX11_depth 26 = .ok (.aload_n 0, 1) := by decide +kernel
theorem dX11_depth_27 : decode cX11_depth 27 = .ok (.getfield 39, 3) := by decide +kernel
theorem dX11_depth_30 : decode cX11_depth 30 = .ok (.getfield 265, 3) := by decide +kernel
theorem dX11_depth_33 : decode cX11_depth 33 = .ok (.iconst 1, 1) := by decide +kernel
theorem dX11_depth_34 : decode cX11_depth 34 = .ok (.isub, 1) := by decide +kernel
theorem dX11_depth_35 : decode cX11_depth 35 = .ok (.iload_n 2, 1) := by decide +kernel
theorem dX11_depth_36 : decode cX11_depth 36 = .ok (.invokevirtual 356, 3) := by decide +kernel
theorem dX11_depth_39 : decode cX11_depth 39 = .ok (.ifCond .ne 5, 3) := by decide +kernel
theorem dX11_depth_42 : decode cX11_depth 42 = .ok (.iconst (-1), 1) := by decide +kernel
theorem dX11_depth_43 : decode cX11_depth 43 = .ok (.ireturn, 1) := by decide +kernel
theorem dX11_depth_44 : decode cX11_depth 44 = .ok (.aload_n 0, 1) := by decide +kernel
theorem dX11_depth_45 : decode cX11_depth 45 = .ok (.getfield 64, 3) := by decide +kernel
theorem dX11_depth_48 : decode cX11_depth 48 = .ok (.iload_n 1, 1) := by decide +kernel
theorem dX11_depth_49 : decode cX11_depth 49 = .ok (.iload_n 3, 1) := by decide +kernel
theorem dX11_depth_50 : decode cX11_depth 50 = .ok (.aload_n 0, 1) := by decide +kernel
theorem dX11_depth_51 : decode cX11_depth 51 = .ok (.getfield 96, 3) := by decide +kernel
theorem dX11_depth_54 : decode cX11_depth 54 = .ok (.invokevirtual 367, 3) := by decide +kernel
theorem dX11_depth_57 : decode cX11_depth 57 = .ok (.ireturn, 1) := by decide +kernel
theorem dX11_pace_0 : decode cX11_pace 0 = .ok (.iload_n 1, 1) := by decide +kernel
theorem dX11_pace_1 : decode cX11_pace 1 = .ok (.iconst 1, 1) := by decide +kernel
theorem dX11_pace_2 : decode cX11_pace 2 = .ok (.sipush 1000, 3) := by decide +kernel
theorem dX11_pace_5 : decode cX11_pace 5 = .ok (.invokestatic 100, 3) := by decide +kernel
theorem dX11_pace_8 : decode cX11_pace 8 = .ok (.ifCond .eq 13, 3) := by decide +kernel
theorem dX11_pace_11 : decode cX11_pace 11 = .ok (.aload_n 0, 1) := by decide +kernel
theorem dX11_pace_12 : decode cX11_pace 12 = .ok (.getfield 39, 3) := by decide +kernel
theorem dX11_pace_15 : decode cX11_pace 15 = .ok (.invokevirtual 147, 3) := by decide +kernel
theorem dX11_pace_18 : decode cX11_pace 18 = .ok (.ifCond .ne 5, 3) := by decide +kernel
theorem dX11_pace_21 : decode cX11_pace 21 = .ok (.iconst (-1), 1) := by decide +kernel
theorem dX11_pace_22 : decode cX11_pace 22 = .ok (.ireturn, 1) := by decide +kernel
theorem dX11_pace_23 : decode cX11_pace 23 = .ok (.iload_n 1, 1) := by decide +kernel
theorem dX11_pace_24 : decode cX11_pace 24 = .ok (.aload_n 0, 1) := by decide +kernel
theorem dX11_pace_25 : decode cX11_pace 25 = .ok (.getfield 39, 3) := by decide +kernel
theorem dX11_pace_28 : decode cX11_pace 28 = .ok (.getfield 235, 3) := by decide +kernel
theorem dX11_pace_31 : decode cX11_pace 31 = .ok (.iconst 1, 1) := by decide +kernel
theorem dX11_pace_32 : decode cX11_pace 32 = .ok (.isub, 1) := by decide +kernel
theorem dX11_pace_33 : decode cX11_pace 33 = .ok (.imul, 1) := by decide +kernel
theorem dX11_pace_34 : decode cX11_pace 34 = .ok (.aload_n 0, 1) := by decide +kernel
theorem dX11_pace_35 : decode cX11_pace 35 = .ok (.getfield 96, 3) := by decide +kernel
theorem dX11_pace_38 : decode cX11_pace 38 = .ok (.imul, 1) := by decide +kernel
theorem dX11_pace_39 : decode cX11_pace 39 = .ok (.invokestatic 370, 3) := by decide +kernel
theorem dX11_pace_42 : decode cX11_pace 42 = .ok (.ireturn, 1) := by decide +kernel
theorem dX11_length_0 : decode cX11_length 0 = .ok (.aload_n 0, 1) := by decide +kernel
theorem dX11_length_1 : decode cX11_length 1 = .ok (.getfield 55, 3) := by decide +kernel
theorem dX11_length_4 : decode cX11_length 4 = .ok (.iload_n 1, 1) := by decide +kernel
theorem dX11_length_5 : decode cX11_length 5 = .ok (.iload_n 2, 1) := by decide +kernel
theorem dX11_length_6 : decode cX11_length 6 = .ok (.invokevirtual 247, 3) := by decide +kernel
theorem dX11_length_9 : decode cX11_length 9 = .ok (.ifCond .ne 5, 3) := by decide +kernel
theorem dX11_length_12 : decode cX11_length 12 = .ok (.iconst (-1), 1) := by decide +kernel
theorem dX11_length_13 : decode cX11_length 13 = .ok (.ireturn, 1) := by decide +kernel
theorem dX11_length_14 : decode cX11_length 14 = .ok (.aload_n 0, 1) := by decide +kernel
theorem dX11_length_15 : decode cX11_length 15 = .ok (.getfield 64, 3) := by decide +kernel
theorem dX11_length_18 : decode cX11_length 18 = .ok (.iload_n 1, 1) := by decide +kernel
theorem dX11_length_19 : decode cX11_length 19 = .ok (.aload_n 0, 1) := by decide +kernel
theorem dX11_length_20 : decode cX11_length 20 = .ok (.getfield 96, 3) := by decide +kernel
theorem dX11_length_23 : decode cX11_length 23 = .ok (.invokevirtual 373, 3) := by decide +kernel
theorem dX11_length_26 : decode cX11_length 26 = .ok (.ireturn, 1) := by decide +kernel
theorem dX11_joints_0 : decode cX11_joints 0 = .ok (.iload_n 3, 1) := by decide +kernel
theorem dX11_joints_1 : decode cX11_joints 1 = .ok (.iconst 1, 1) := by decide +kernel
theorem dX11_joints_2 : decode cX11_joints 2 = .ok (.ldc_w 376, 3) := by decide +kernel
theorem dX11_joints_5 : decode cX11_joints 5 = .ok (.invokestatic 100, 3) := by decide +kernel
theorem dX11_joints_8 : decode cX11_joints 8 = .ok (.ifCond .eq 21, 3) := by decide +kernel
theorem dX11_joints_11 : decode cX11_joints 11 = .ok (.iload 4, 2) := by decide +kernel
theorem dX11_joints_13 : decode cX11_joints 13 = .ok (.iconst (-1), 1) := by decide +kernel
theorem dX11_joints_14 : decode cX11_joints 14 = .ok (.if_icmp .lt 15, 3) := by decide +kernel
theorem dX11_joints_17 : decode cX11_joints 17 = .ok (.aload_n 0, 1) := by decide +kernel
theorem dX11_joints_18 : decode cX11_joints 18 = .ok (.getfield 64, 3) := by decide +kernel
theorem dX11_joints_21 : decode cX11_joints 21 = .ok (.iload_n 1, 1) := by decide +kernel
theorem dX11_joints_22 : decode cX11_joints 22 = .ok (.iload_n 2, 1) := by decide +kernel
theorem dX11_joints_23 : decode cX11_joints 23 = .ok (.invokevirtual 356, 3) := by decide +kernel
theorem dX11_joints_26 : decode cX11_joints 26 = .ok (.ifCond .ne 6, 3) := by decide +kernel
theorem dX11_joints_29 : decode cX11_joints 29 = .ok (.bipush (-3), 2) := by decide +kernel
theorem dX11_joints_31 : decode cX11_joints 31 = .ok (.ireturn, 1) := by decide +kernel
theorem dX11_joints_32 : decode cX11_joints 32 = .ok (.aload_n 0, 1) := by decide +kernel
theorem dX11_joints_33 : decode cX11_joints 33 = .ok (.getfield 64, 3) := by decide +kernel
theorem dX11_joints_36 : decode cX11_joints 36 = .ok (.iload_n 1, 1) := by decide +kernel
theorem dX11_joints_37 : decode cX11_joints 37 = .ok (.iload_n 3, 1) := by decide +kernel
theorem dX11_joints_38 : decode cX11_joints 38 = .ok (.aload_n 0, 1) := by decide +kernel
theorem dX11_joints_39 : decode cX11_joints 39 = .ok (.getfield 96, 3) := by decide +kernel
theorem dX11_joints_42 : decode cX11_joints 42 = .ok (.invokevirtual 377, 3) := by decide +kernel
theorem dX11_joints_45 : decode cX11_joints 45 = .ok (.ifCond .ne 6, 3) := by decide +kernel
theorem dX11_joints_48 : decode cX11_joints 48 = .ok (.bipush (-2), 2) := by decide +kernel
theorem dX11_joints_50 : decode cX11_joints 50 = .ok (.ireturn, 1) := by decide +kernel
theorem dX11_joints_51 : decode cX11_joints 51 = .ok (.iload 4, 2) := by decide +kernel
theorem dX11_joints_53 : decode cX11_joints 53 = .ok (.iconst (-1), 1) := by decide +kernel
theorem dX11_joints_54 : decode cX11_joints 54 = .ok (.if_icmp .ne 11, 3) := by decide +kernel
theorem dX11_joints_57 : decode cX11_joints 57 = .ok (.aload_n 0, 1) := by decide +kernel
theorem dX11_joints_58 : decode cX11_joints 58 = .ok (.getfield 64, 3) := by decide +kernel
theorem dX11_joints_61 : decode cX11_joints 61 = .ok (.getfield 380, 3) := by decide +kernel
theorem dX11_joints_64 : decode cX11_joints 64 = .ok (.ireturn, 1) := by decide +kernel
theorem dX11_joints_65 : decode cX11_joints 65 = .ok (.iload 4, 2) := by decide +kernel
theorem dX11_joints_67 : decode cX11_joints 67 = .ok (.aload_n 0, 1) := by decide +kernel
theorem dX11_joints_68 : decode cX11_joints 68 = .ok (.getfield 64, 3) := by decide +kernel
theorem dX11_joints_71 : decode cX11_joints 71 = .ok (.getfield 380, 3) := by decide +kernel
theorem dX11_joints_74 : decode cX11_joints 74 = .ok (.if_icmp .ge 16, 3) := by decide +kernel
theorem dX11_joints_77 : decode cX11_joints 77 = .ok (.aload_n 0, 1) := by decide +kernel
theorem dX11_joints_78 : decode cX11_joints 78 = .ok (.getfield 64, 3) := by decide +kernel
theorem dX11_joints_81 : decode cX11_joints 81 = .ok (.getfield 383, 3) := by decide +kernel
theorem dX11_joints_84 : decode cX11_joints 84 = .ok (.iload 4, 2) := by decide +kernel
theorem dX11_joints_86 : decode cX11_joints 86 = .ok (.iaload, 1) := by decide +kernel
theorem dX11_joints_87 : decode cX11_joints 87 = .ok (.goto 5, 3) := by decide +kernel
theorem dX11_joints_90 : decode cX11_joints 90 = .ok (.bipush (-3), 2) := by decide +kernel
theorem dX11_joints_92 : decode cX11_joints 92 = .ok (.ireturn, 1) := by decide +kernel
theorem dX11_lasts_0 : decode cX11_lasts 0 = .ok (.iload_n 1, 1) := by decide +kernel
theorem dX11_lasts_1 : decode cX11_lasts 1 = .ok (.iconst 1, 1) := by decide +kernel
theorem dX11_lasts_2 : decode cX11_lasts 2 = .ok (.sipush 10000, 3) := by decide +kernel
theorem dX11_lasts_5 : decode cX11_lasts 5 = .ok (.invokestatic 100, 3) := by decide +kernel
theorem dX11_lasts_8 : decode cX11_lasts 8 = .ok (.ifCond .eq 13, 3) := by decide +kernel
theorem dX11_lasts_11 : decode cX11_lasts 11 = .ok (.iload_n 2, 1) := by decide +kernel
theorem dX11_lasts_12 : decode cX11_lasts 12 = .ok (.iconst 0, 1) := by decide +kernel
theorem dX11_lasts_13 : decode cX11_lasts 13 = .ok (.bipush 100, 2) := by decide +kernel
theorem dX11_lasts_15 : decode cX11_lasts 15 = .ok (.invokestatic 100, 3) := by decide +kernel
theorem dX11_lasts_18 : decode cX11_lasts 18 = .ok (.ifCond .ne 5, 3) := by decide +kernel
theorem dX11_lasts_21 : decode cX11_lasts 21 = .ok (.iconst (-1), 1) := by decide +kernel
theorem dX11_lasts_22 : decode cX11_lasts 22 = .ok (.ireturn, 1) := by decide +kernel
theorem dX11_lasts_23 : decode cX11_lasts 23 = .ok (.aload_n 0, 1) := by decide +kernel
theorem dX11_lasts_24 : decode cX11_lasts 24 = .ok (.getfield 32, 3) := by decide +kernel
theorem dX11_lasts_27 : decode cX11_lasts 27 = .ok (.bipush 13, 2) := by decide +kernel
theorem dX11_lasts_29 : decode cX11_lasts 29 = .ok (.aload_n 0, 1) := by decide +kernel
theorem dX11_lasts_30 : decode cX11_lasts 30 = .ok (.getfield 39, 3) := by decide +kernel
theorem dX11_lasts_33 : decode cX11_lasts 33 = .ok (.getfield 235, 3) := by decide +kernel
theorem dX11_lasts_36 : decode cX11_lasts 36 = .ok (.iastore, 1) := by decide +kernel
theorem dX11_lasts_37 : decode cX11_lasts 37 = .ok (.aload_n 0, 1) := by decide +kernel
theorem dX11_lasts_38 : decode cX11_lasts 38 = .ok (.getfield 32, 3) := by decide +kernel
theorem dX11_lasts_41 : decode cX11_lasts 41 = .ok (.bipush 10, 2) := by decide +kernel
theorem dX11_lasts_43 : decode cX11_lasts 43 = .ok (.aload_n 0, 1) := by decide +kernel
theorem dX11_lasts_44 : decode cX11_lasts 44 = .ok (.getfield 39, 3) := by decide +kernel
theorem dX11_lasts_47 : decode cX11_lasts 47 = .ok (.getfield 265, 3) := by decide +kernel
theorem dX11_lasts_50 : decode cX11_lasts 50 = .ok (.iastore, 1) := by decide +kernel
theorem dX11_lasts_51 : decode cX11_lasts 51 = .ok (.aload_n 0, 1) := by decide +kernel
theorem dX11_lasts_52 : decode cX11_lasts 52 = .ok (.getfield 32, 3) := by decide +kernel
theorem dX11_lasts_55 : decode cX11_lasts 55 = .ok (.bipush 22, 2) := by decide +kernel
theorem dX11_lasts_57 : decode cX11_lasts 57 = .ok (.iload_n 2, 1) := by decide +kernel
theorem dX11_lasts_58 : decode cX11_lasts 58 = .ok (.iastore, 1) := by decide +kernel
theorem dX11_lasts_59 : decode cX11_lasts 59 = .ok (.iload_n 1, 1) := by decide +kernel
theorem dX11_lasts_60 : decode cX11_lasts 60 = .ok (.istore_n 3, 1) := by decide +kernel
theorem dX11_lasts_61 : decode cX11_lasts 61 = .ok (.iconst 0, 1) := by decide +kernel
theorem dX11_lasts_62 : decode cX11_lasts 62 = .ok (.istore 4, 2) := by decide +kernel
theorem dX11_lasts_64 : decode cX11_lasts 64 = .ok (.iload 4, 2) := by decide +kernel
theorem dX11_lasts_66 : decode cX11_lasts 66 = .ok (.sipush 2000, 3) := by decide +kernel
theorem dX11_lasts_69 : decode cX11_lasts 69 = .ok (.if_icmp .ge 57, 3) := by decide +kernel
theorem dX11_lasts_72 : decode cX11_lasts 72 = .ok (.aload_n 0, 1) := by decide +kernel
theorem dX11_lasts_73 : decode cX11_lasts 73 = .ok (.getfield 32, 3) := by decide +kernel
theorem dX11_lasts_76 : decode cX11_lasts 76 = .ok (.bipush 19, 2) := by decide +kernel
theorem dX11_lasts_78 : decode cX11_lasts 78 = .ok (.iload 4, 2) := by decide +kernel
theorem dX11_lasts_80 : decode cX11_lasts 80 = .ok (.iastore, 1) := by decide +kernel
theorem dX11_lasts_81 : decode cX11_lasts 81 = .ok (.aload_n 0, 1) := by decide +kernel
theorem dX11_lasts_82 : decode cX11_lasts 82 = .ok (.getfield 32, 3) := by decide +kernel
theorem dX11_lasts_85 : decode cX11_lasts 85 = .ok (.bipush 21, 2) := by decide +kernel
theorem dX11_lasts_87 : decode cX11_lasts 87 = .ok (.iload_n 3, 1) := by decide +kernel
theorem dX11_lasts_88 : decode cX11_lasts 88 = .ok (.iastore, 1) := by decide +kernel
theorem dX11_lasts_89 : decode cX11_lasts 89 = .ok (.iload_n 3, 1) := by decide +kernel
theorem dX11_lasts_90 : decode cX11_lasts 90 = .ok (.aload_n 0, 1) := by decide +kernel
theorem dX11_lasts_91 : decode cX11_lasts 91 = .ok (.getfield 28, 3) := by decide +kernel
theorem dX11_lasts_94 : decode cX11_lasts 94 = .ok (.iconst 2, 1) := by decide +kernel
theorem dX11_lasts_95 : decode cX11_lasts 95 = .ok (.aaload, 1) := by decide +kernel
theorem dX11_lasts_96 : decode cX11_lasts 96 = .ok (.bipush 101, 2) := by decide +kernel
theorem dX11_lasts_98 : decode cX11_lasts 98 = .ok (.aload_n 0, 1) := by decide +kernel
theorem dX11_lasts_99 : decode cX11_lasts 99 = .ok (.getfield 32, 3) := by decide +kernel
theorem dX11_lasts_102 : decode cX11_lasts 102 = .ok (.iconst 0, 1) := by decide +kernel
theorem dX11_lasts_103 : decode cX11_lasts 103 = .ok (.sipush 1000, 3) := by decide +kernel
theorem dX11_lasts_106 : decode cX11_lasts 106 = .ok (.invokevirtual 386, 3) := by decide +kernel
theorem dX11_lasts_109 : decode cX11_lasts 109 = .ok (.isub, 1) := by decide +kernel
theorem dX11_lasts_110 : decode cX11_lasts 110 = .ok (.istore_n 3, 1) := by decide +kernel
theorem dX11_lasts_111 : decode cX11_lasts 111 = .ok (.iload_n 3, 1) := by decide +kernel
theorem dX11_lasts_112 : decode cX11_lasts 112 = .ok (.ifCond .gt 8, 3) := by decide +kernel
theorem dX11_lasts_115 : decode cX11_lasts 115 = .ok (.iload 4, 2) := by decide +kernel
theorem dX11_lasts_117 : decode cX11_lasts 117 = .ok (.iconst 1, 1) := by decide +kernel
theorem dX11_lasts_118 : decode cX11_lasts 118 = .ok (.iadd, 1) := by decide +kernel
theorem dX11_lasts_119 : decode cX11_lasts 119 = .ok (.ireturn, 1) := by decide +kernel
theorem dX11_lasts_120 : decode cX11_lasts 120 = .ok (.iinc 4 1, 3) := by decide +kernel
theorem dX11_lasts_123 : decode cX11_lasts 123 = .ok (.goto (-59), 3) := by decide +kernel
theorem dX11_lasts_126 : decode cX11_lasts 126 = .ok (.bipush (-2), 2) := by decide +kernel
theorem dX11_lasts_128 : decode cX11_lasts 128 = .ok (.ireturn, 1) := by decide +kernel
theorem dX11_check_0 : decode cX11_check 0 = .ok (.iload_n 3, 1) := by decide +kernel
theorem dX11_check_1 : decode cX11_check 1 = .ok (.ifCond .lt 28, 3) := by decide +kernel
theorem dX11_check_4 : decode cX11_check 4 = .ok (.iload_n 3, 1) := by decide +kernel
theorem dX11_check_5 : decode cX11_check 5 = .ok (.aload_n 0, 1) := by decide +kernel
theorem dX11_check_6 : decode cX11_check 6 = .ok (.getfield 10, 3) := by decide +kernel
theorem dX11_check_9 : decode cX11_check 9 = .ok (.getfield 116, 3) := by decide +kernel
theorem dX11_check_12 : decode cX11_check 12 = .ok (.iconst 4, 1) := by decide +kernel
theorem dX11_check_13 : decode cX11_check 13 = .ok (.idiv, 1) := by decide +kernel
theorem dX11_check_14 : decode cX11_check 14 = .ok (.if_icmp .gt 15, 3) := by decide +kernel
theorem dX11_check_17 : decode cX11_check 17 = .ok (.aload_n 0, 1) := by decide +kernel
theorem dX11_check_18 : decode cX11_check 18 = .ok (.getfield 55, 3) := by decide +kernel
theorem dX11_check_21 : decode cX11_check 21 = .ok (.iload_n 1, 1) := by decide +kernel
theorem dX11_check_22 : decode cX11_check 22 = .ok (.iload_n 2, 1) := by decide +kernel
theorem dX11_check_23 : decode cX11_check 23 = .ok (.invokevirtual 247, 3) := by decide +kernel
theorem dX11_check_26 : decode cX11_check 26 = .ok (.ifCond .ne 6, 3) := by decide +kernel
theorem dX11_check_29 : decode cX11_check 29 = .ok (.bipush (-2), 2) := by decide +kernel
theorem dX11_check_31 : decode cX11_check 31 = .ok (.ireturn, 1) := by decide +kernel
theorem dX11_check_32 : decode cX11_check 32 = .ok (.aload_n 0, 1) := by decide +kernel
theorem dX11_check_33 : decode cX11_check 33 = .ok (.iload_n 1, 1) := by decide +kernel
theorem dX11_check_34 : decode cX11_check 34 = .ok (.iload_n 3, 1) := by decide +kernel
theorem dX11_check_35 : decode cX11_check 35 = .ok (.invokevirtual 390, 3) := by decide +kernel
theorem dX11_check_38 : decode cX11_check 38 = .ok (.istore 4, 2) := by decide +kernel
theorem dX11_check_40 : decode cX11_check 40 = .ok (.aload_n 0, 1) := by decide +kernel
theorem dX11_check_41 : decode cX11_check 41 = .ok (.getfield 10, 3) := by decide +kernel
theorem dX11_check_44 : decode cX11_check 44 = .ok (.invokevirtual 133, 3) := by decide +kernel
theorem dX11_check_47 : decode cX11_check 47 = .ok (.iload 4, 2) := by decide +kernel
theorem dX11_check_49 : decode cX11_check 49 = .ok (.ireturn, 1) := by decide +kernel
theorem dX11_count_0 : decode cX11_count 0 = .ok (.iload_n 1, 1) := by decide +kernel
theorem dX11_count_1 : decode cX11_count 1 = .ok (.tableswitch 123 0 9 #[55, 63, 71, 79, 87, 95, 95, 95, 107, 115], 55) := by decide +kernel
theorem dX11_count_56 : decode cX11_count 56 = .ok (.aload_n 0, 1) := by decide +kernel
theorem dX11_count_57 : decode cX11_count 57 = .ok (.getfield 39, 3) := by decide +kernel
theorem dX11_count_60 : decode cX11_count 60 = .ok (.getfield 235, 3) := by decide +kernel
theorem dX11_count_63 : decode cX11_count 63 = .ok (.ireturn, 1) := by decide +kernel
theorem dX11_count_64 : decode cX11_count 64 = .ok (.aload_n 0, 1) := by decide +kernel
theorem dX11_count_65 : decode cX11_count 65 = .ok (.getfield 39, 3) := by decide +kernel
theorem dX11_count_68 : decode cX11_count 68 = .ok (.getfield 265, 3) := by decide +kernel
theorem dX11_count_71 : decode cX11_count 71 = .ok (.ireturn, 1) := by decide +kernel
theorem dX11_count_72 : decode cX11_count 72 = .ok (.aload_n 0, 1) := by decide +kernel
theorem dX11_count_73 : decode cX11_count 73 = .ok (.getfield 39, 3) := by decide +kernel
theorem dX11_count_76 : decode cX11_count 76 = .ok (.invokevirtual 155, 3) := by decide +kernel
theorem dX11_count_79 : decode cX11_count 79 = .ok (.ireturn, 1) := by decide +kernel
theorem dX11_count_80 : decode cX11_count 80 = .ok (.aload_n 0, 1) := by decide +kernel
theorem dX11_count_81 : decode cX11_count 81 = .ok (.getfield 39, 3) := by decide +kernel
theorem dX11_count_84 : decode cX11_count 84 = .ok (.getfield 105, 3) := by decide +kernel
theorem dX11_count_87 : decode cX11_count 87 = .ok (.ireturn, 1) := by decide +kernel
theorem dX11_count_88 : decode cX11_count 88 = .ok (.aload_n 0, 1) := by decide +kernel
theorem dX11_count_89 : decode cX11_count 89 = .ok (.getfield 10, 3) := by decide +kernel
theorem dX11_count_92 : decode cX11_count 92 = .ok (.getfield 116, 3) := by decide +kernel
theorem dX11_count_95 : decode cX11_count 95 = .ok (.ireturn, 1) := by decide +kernel
theorem dX11_count_96 : decode cX11_count 96 = .ok (.aload_n 0, 1) := by decide +kernel
theorem dX11_count_97 : decode cX11_count 97 = .ok (.getfield 28, 3) := by decide +kernel
theorem dX11_count_100 : decode cX11_count 100 = .ok (.iload_n 1, 1) := by decide +kernel
theorem dX11_count_101 : decode cX11_count 101 = .ok (.iconst 5, 1) := by decide +kernel
theorem dX11_count_102 : decode cX11_count 102 = .ok (.isub, 1) := by decide +kernel
theorem dX11_count_103 : decode cX11_count 103 = .ok (.aaload, 1) := by decide +kernel
theorem dX11_count_104 : decode cX11_count 104 = .ok (.getfield 396, 3) := by decide +kernel
theorem dX11_count_107 : decode cX11_count 107 = .ok (.ireturn, 1) := by decide +kernel
theorem dX11_count_108 : decode cX11_count 108 = .ok (.aload_n 0, 1) := by decide +kernel
theorem dX11_count_109 : decode cX11_count 109 = .ok (.getfield 48, 3) := by decide +kernel
theorem dX11_count_112 : decode cX11_count 112 = .ok (.getfield 399, 3) := by decide +kernel
theorem dX11_count_115 : decode cX11_count 115 = .ok (.ireturn, 1) := by decide +kernel
theorem dX11_count_116 : decode cX11_count 116 = .ok (.aload_n 0, 1) := by decide +kernel
theorem dX11_count_117 : decode cX11_count 117 = .ok (.getfield 92, 3) := by decide +kernel
theorem dX11_count_120 : decode cX11_count 120 = .ok (.invokevirtual 347, 3) := by decide +kernel
theorem dX11_count_123 : decode cX11_count 123 = .ok (.ireturn, 1) := by decide +kernel
theorem dX11_count_124 : decode cX11_count 124 = .ok (.iload_n 1, 1) := by decide +kernel
theorem dX11_count_125 : decode cX11_count 125 = .ok (.bipush 10, 2) := by decide +kernel
theorem dX11_count_127 : decode cX11_count 127 = .ok (.if_icmp .lt 31, 3) := by decide +kernel
theorem dX11_count_130 : decode cX11_count 130 = .ok (.aload_n 0, 1) := by decide +kernel
theorem dX11_count_131 : decode cX11_count 131 = .ok (.getfield 48, 3) := by decide +kernel
theorem dX11_count_134 : decode cX11_count 134 = .ok (.iload_n 1, 1) := by decide +kernel
theorem dX11_count_135 : decode cX11_count 135 = .ok (.bipush 10, 2) := by decide +kernel
theorem dX11_count_137 : decode cX11_count 137 = .ok (.isub, 1) := by decide +kernel
theorem dX11_count_138 : decode cX11_count 138 = .ok (.invokevirtual 197, 3) := by decide +kernel
theorem dX11_count_141 : decode cX11_count 141 = .ok (.ifCond .eq 17, 3) := by decide +kernel
theorem dX11_count_144 : decode cX11_count 144 = .ok (.aload_n 0, 1) := by decide +kernel
theorem dX11_count_145 : decode cX11_count 145 = .ok (.getfield 48, 3) := by decide +kernel
theorem dX11_count_148 : decode cX11_count 148 = .ok (.iload_n 1, 1) := by decide +kernel
theorem dX11_count_149 : decode cX11_count 149 = .ok (.bipush 10, 2) := by decide +kernel
theorem dX11_count_151 : decode cX11_count 151 = .ok (.isub, 1) := by decide +kernel
theorem dX11_count_152 : decode cX11_count 152 = .ok (.invokevirtual 205, 3) := by decide +kernel
theorem dX11_count_155 : decode cX11_count 155 = .ok (.goto 4, 3) := by decide +kernel
theorem dX11_count_158 : decode cX11_count 158 = .ok (.iconst (-1), 1) := by decide +kernel
theorem dX11_count_159 : decode cX11_count 159 = .ok (.ireturn, 1) := by decide +kernel
theorem dX11_within_0 : decode cX11_within 0 = .ok (.iload_n 0, 1) := by decide +kernel
theorem dX11_within_1 : decode cX11_within 1 = .ok (.iload_n 1, 1) := by decide +kernel
theorem dX11_within_2 : decode cX11_within 2 = .ok (.if_icmp .lt 12, 3) := by decide +kernel
theorem dX11_within_5 : decode cX11_within 5 = .ok (.iload_n 0, 1) := by decide +kernel
theorem dX11_within_6 : decode cX11_within 6 = .ok (.iload_n 2, 1) := by decide +kernel
theorem dX11_within_7 : decode cX11_within 7 = .ok (.if_icmp .gt 7, 3) := by decide +kernel
theorem dX11_within_10 : decode cX11_within 10 = .ok (.iconst 1, 1) := by decide +kernel
theorem dX11_within_11 : decode cX11_within 11 = .ok (.goto 4, 3) := by decide +kernel
theorem dX11_within_14 : decode cX11_within 14 = .ok (.iconst 0, 1) := by decide +kernel
theorem dX11_within_15 : decode cX11_within 15 = .ok (.ireturn, 1) := by decide +kernel
theorem dX12_init_0 : decode cX12_init 0 = .ok (.aload_n 0, 1) := by decide +kernel
theorem dX12_init_1 : decode cX12_init 1 = .ok (.invokespecial 1, 3) := by decide +kernel
theorem dX12_init_4 : decode cX12_init 4 = .ok (.aload_n 0, 1) := by decide +kernel
theorem dX12_init_5 : decode cX12_init 5 = .ok (.sipush 220, 3) := by decide +kernel
theorem dX12_init_8 : decode cX12_init 8 = .ok (.newarray .byte, 2) := by decide +kernel
theorem dX12_init_10 : decode cX12_init 10 = .ok (.putfield 7, 3) := by decide +kernel
theorem dX12_init_13 : decode cX12_init 13 = .ok (.aload_n 0, 1) := by decide +kernel
theorem dX12_init_14 : decode cX12_init 14 = .ok (.bipush 100, 2) := by decide +kernel
theorem dX12_init_16 : decode cX12_init 16 = .ok (.putfield 13, 3) := by decide +kernel
theorem dX12_init_19 : decode cX12_init 19 = .ok (.aload_n 0, 1) := by decide +kernel
theorem dX12_init_20 : decode cX12_init 20 = .ok (.iconst 1, 1) := by decide +kernel
theorem dX12_init_21 : decode cX12_init 21 = .ok (.putfield 17, 3) := by decide +kernel
theorem dX12_init_24 : decode cX12_init 24 = .ok (.aload_n 0, 1) := by decide +kernel
theorem dX12_init_25 : decode cX12_init 25 = .ok (.iconst 3, 1) := by decide +kernel
theorem dX12_init_26 : decode cX12_init 26 = .ok (.newarray .int, 2) := by decide +kernel
theorem dX12_init_28 : decode cX12_init 28 = .ok (.putfield 20, 3) := by decide +kernel
theorem dX12_init_31 : decode cX12_init 31 = .ok (.aload_n 0, 1) := by decide +kernel
theorem dX12_init_32 : decode cX12_init 32 = .ok (.bipush 42, 2) := by decide +kernel
theorem dX12_init_34 : decode cX12_init 34 = .ok (.newarray .int, 2) := by decide +kernel
theorem dX12_init_36 : decode cX12_init 36 = .ok (.putfield 24, 3) := by decide +kernel
theorem dX12_init_39 : decode cX12_init 39 = .ok (.aload_n 0, 1) := by decide +kernel
theorem dX12_init_40 : decode cX12_init 40 = .ok (.bipush 42, 2) := by decide +kernel
theorem dX12_init_42 : decode cX12_init 42 = .ok (.newarray .int, 2) := by decide +kernel
theorem dX12_init_44 : decode cX12_init 44 = .ok (.putfield 27, 3) := by decide +kernel
theorem dX12_init_47 : decode cX12_init 47 = .ok (.aload_n 0, 1) := by decide +kernel
theorem dX12_init_48 : decode cX12_init 48 = .ok (.bipush 42, 2) := by decide +kernel
theorem dX12_init_50 : decode cX12_init 50 = .ok (.newarray .int, 2) := by decide +kernel
theorem dX12_init_52 : decode cX12_init 52 = .ok (.putfield 30, 3) := by decide +kernel
theorem dX12_init_55 : decode cX12_init 55 = .ok (.aload_n 0, 1) := by decide +kernel
theorem dX12_init_56 : decode cX12_init 56 = .ok (.bipush 42, 2) := by decide +kernel
theorem dX12_init_58 : decode cX12_init 58 = .ok (.newarray .int, 2) := by decide +kernel
theorem dX12_init_60 : decode cX12_init 60 = .ok (.putfield 33, 3) := by decide +kernel
theorem dX12_init_63 : decode cX12_init 63 = .ok (.aload_n 0, 1) := by decide +kernel
theorem dX12_init_64 : decode cX12_init 64 = .ok (.sipush 600, 3) := by decide +kernel
theorem dX12_init_67 : decode cX12_init 67 = .ok (.newarray .int, 2) := by decide +kernel
theorem dX12_init_69 : decode cX12_init 69 = .ok (.putfield 36, 3) := by decide +kernel
theorem dX12_init_72 : decode cX12_init 72 = .ok (.aload_n 0, 1) := by decide +kernel
theorem dX12_init_73 : decode cX12_init 73 = .ok (.sipush 600, 3) := by decide +kernel
theorem dX12_init_76 : decode cX12_init 76 = .ok (.newarray .int, 2) := by decide +kernel
theorem dX12_init_78 : decode cX12_init 78 = .ok (.putfield 39, 3) := by decide +kernel
theorem dX12_init_81 : decode cX12_init 81 = .ok (.aload_n 0, 1) := by decide +kernel
theorem dX12_init_82 : decode cX12_init 82 = .ok (.bipush 14, 2) := by decide +kernel
theorem dX12_init_84 : decode cX12_init 84 = .ok (.newarray .int, 2) := by decide +kernel
theorem dX12_init_86 : decode cX12_init 86 = .ok (.putfield 42, 3) := by decide +kernel
theorem dX12_init_89 : decode cX12_init 89 = .ok (.aload_n 0, 1) := by decide +kernel
theorem dX12_init_90 : decode cX12_init 90 = .ok (.bipush 14, 2) := by decide +kernel
theorem dX12_init_92 : decode cX12_init 92 = .ok (.newarray .int, 2) := by decide +kernel
theorem dX12_init_94 : decode cX12_init 94 = .ok (.putfield 45, 3) := by decide +kernel
theorem dX12_init_97 : decode cX12_init 97 = .ok (.aload_n 0, 1) := by decide +kernel
theorem dX12_init_98 : decode cX12_init 98 = .ok (.bipush 14, 2) := by decide +kernel
theorem dX12_init_100 : decode cX12_init 100 = .ok (.newarray .int, 2) := by decide +kernel
theorem dX12_init_102 : decode cX12_init 102 = .ok (.putfield 48, 3) := by decide +kernel
theorem dX12_init_105 : decode cX12_init 105 = .ok (.aload_n 0, 1) := by decide +kernel
theorem dX12_init_106 : decode cX12_init 106 = .ok (.bipush 14, 2) := by decide +kernel
theorem dX12_init_108 : decode cX12_init 108 = .ok (.newarray .int, 2) := by decide +kernel
theorem dX12_init_110 : decode cX12_init 110 = .ok (.putfield 51, 3) := by decide +kernel
theorem dX12_init_113 : decode cX12_init 113 = .ok (.aload_n 0, 1) := by decide +kernel
theorem dX12_init_114 : decode cX12_init 114 = .ok (.sipush 200, 3) := by decide +kernel
theorem dX12_init_117 : decode cX12_init 117 = .ok (.newarray .int, 2) := by decide +kernel
theorem dX12_init_119 : decode cX12_init 119 = .ok (.putfield 54, 3) := by decide +kernel
theorem dX12_init_122 : decode cX12_init 122 = .ok (.aload_n 0, 1) := by decide +kernel
theorem dX12_init_123 : decode cX12_init 123 = .ok (.sipush 200, 3) := by decide +kernel
theorem dX12_init_126 : decode cX12_init 126 = .ok (.newarray .int, 2) := by decide +kernel
theorem dX12_init_128 : decode cX12_init 128 = .ok (.putfield 57, 3) := by decide +kernel
theorem dX12_init_131 : decode cX12_init 131 = .ok (.aload_n 0, 1) := by decide +kernel
theorem dX12_init_132 : decode cX12_init 132 = .ok (.sipush 240, 3) := by decide +kernel
theorem dX12_init_135 : decode cX12_init 135 = .ok (.newarray .int, 2) := by decide +kernel
theorem dX12_init_137 : decode cX12_init 137 = .ok (.putfield 60, 3) := by decide +kernel
theorem dX12_init_140 : decode cX12_init 140 = .ok (.aload_n 0, 1) := by decide +kernel
theorem dX12_init_141 : decode cX12_init 141 = .ok (.sipush 240, 3) := by decide +kernel
theorem dX12_init_144 : decode cX12_init 144 = .ok (.newarray .int, 2) := by decide +kernel
theorem dX12_init_146 : decode cX12_init 146 = .ok (.putfield 63, 3) := by decide +kernel
theorem dX12_init_149 : decode cX12_init 149 = .ok (.aload_n 0, 1) := by decide +kernel
theorem dX12_init_150 : decode cX12_init 150 = .ok (.sipush 240, 3) := by decide +kernel
theorem dX12_init_153 : decode cX12_init 153 = .ok (.newarray .boolean, 2) := by decide +kernel
theorem dX12_init_155 : decode cX12_init 155 = .ok (.putfield 66, 3) := by decide +kernel
theorem dX12_init_158 : decode cX12_init 158 = .ok (.aload_n 0, 1) := by decide +kernel
theorem dX12_init_159 : decode cX12_init 159 = .ok (.sipush 384, 3) := by decide +kernel
theorem dX12_init_162 : decode cX12_init 162 = .ok (.newarray .int, 2) := by decide +kernel
theorem dX12_init_164 : decode cX12_init 164 = .ok (.putfield 70, 3) := by decide +kernel
theorem dX12_init_167 : decode cX12_init 167 = .ok (.aload_n 0, 1) := by decide +kernel
theorem dX12_init_168 : decode cX12_init 168 = .ok (.sipush 384, 3) := by decide +kernel
theorem dX12_init_171 : decode cX12_init 171 = .ok (.newarray .int, 2) := by decide +kernel
theorem dX12_init_173 : decode cX12_init 173 = .ok (.putfield 73, 3) := by decide +kernel
theorem dX12_init_176 : decode cX12_init 176 = .ok (.aload_n 0, 1) := by decide +kernel
theorem dX12_init_177 : decode cX12_init 177 = .ok (.sipush 384, 3) := by decide +kernel
theorem dX12_init_180 : decode cX12_init 180 = .ok (.newarray .boolean, 2) := by decide +kernel
theorem dX12_init_182 : decode cX12_init 182 = .ok (.putfield 76, 3) := by decide +kernel
theorem dX12_init_185 : decode cX12_init 185 = .ok (.aload_n 0, 1) := by decide +kernel
theorem dX12_init_186 : decode cX12_init 186 = .ok (.sipush 384, 3) := by decide +kernel
theorem dX12_init_189 : decode cX12_init 189 = .ok (.newarray .int, 2) := by decide +kernel
theorem dX12_init_191 : decode cX12_init 191 = .ok (.putfield 79, 3) := by decide +kernel
theorem dX12_init_194 : decode cX12_init 194 = .ok (.aload_n 0, 1) := by decide +kernel
theorem dX12_init_195 : decode cX12_init 195 = .ok (.bipush 24, 2) := by decide +kernel
theorem dX12_init_197 : decode cX12_init 197 = .ok (.newarray .int, 2) := by decide +kernel
theorem dX12_init_199 : decode cX12_init 199 = .ok (.putfield 82, 3) := by decide +kernel
theorem dX12_init_202 : decode cX12_init 202 = .ok (.aload_n 0, 1) := by decide +kernel
theorem dX12_init_203 : decode cX12_init 203 = .ok (.sipush 1536, 3) := by decide +kernel
theorem dX12_init_206 : decode cX12_init 206 = .ok (.newarray .boolean, 2) := by decide +kernel
theorem dX12_init_208 : decode cX12_init 208 = .ok (.putfield 85, 3) := by decide +kernel
theorem dX12_init_211 : decode cX12_init 211 = .ok (.aload_n 0, 1) := by decide +kernel
theorem dX12_init_212 : decode cX12_init 212 = .ok (.sipush 1536, 3) := by decide +kernel
theorem dX12_init_215 : decode cX12_init 215 = .ok (.newarray .int, 2) := by decide +kernel
theorem dX12_init_217 : decode cX12_init 217 = .ok (.putfield 88, 3) := by decide +kernel
theorem dX12_init_220 : decode cX12_init 220 = .ok (.aload_n 0, 1) := by decide +kernel
theorem dX12_init_221 : decode cX12_init 221 = .ok (.sipush 1536, 3) := by decide +kernel
theorem dX12_init_224 : decode cX12_init 224 = .ok (.newarray .int, 2) := by decide +kernel
theorem dX12_init_226 : decode cX12_init 226 = .ok (.putfield 91, 3) := by decide +kernel
theorem dX12_init_229 : decode cX12_init 229 = .ok (.aload_n 0, 1) := by decide +kernel
theorem dX12_init_230 : decode cX12_init 230 = .ok (.sipush 384, 3) := by decide +kernel
theorem dX12_init_233 : decode cX12_init 233 = .ok (.newarray .int, 2) := by decide +kernel
theorem dX12_init_235 : decode cX12_init 235 = .ok (.putfield 94, 3) := by decide +kernel
theorem dX12_init_238 : decode cX12_init 238 = .ok (.aload_n 0, 1) := by decide +kernel
theorem dX12_init_239 : decode cX12_init 239 = .ok (.bipush 24, 2) := by decide +kernel
theorem dX12_init_241 : decode cX12_init 241 = .ok (.newarray .int, 2) := by decide +kernel
theorem dX12_init_243 : decode cX12_init 243 = .ok (.putfield 97, 3) := by decide +kernel
theorem dX12_init_246 : decode cX12_init 246 = .ok (.aload_n 0, 1) := by decide +kernel
theorem dX12_init_247 : decode cX12_init 247 = .ok (.bipush 24, 2) := by decide +kernel
theorem dX12_init_249 : decode cX12_init 249 = .ok (.newarray .int, 2) := by decide +kernel
theorem dX12_init_251 : decode cX12_init 251 = .ok (.putfield 100, 3) := by decide +kernel
theorem dX12_init_254 : decode cX12_init 254 = .ok (.aload_n 0, 1) := by decide +kernel
theorem dX12_init_255 : decode cX12_init 255 = .ok (.bipush 24, 2) := by decide +kernel
theorem dX12_init_257 : decode cX12_init 257 = .ok (.newarray .int, 2) := by decide +kernel
theorem dX12_init_259 : decode cX12_init 259 = .ok (.putfield 103, 3) := by decide +kernel
theorem dX12_init_262 : decode cX12_init 262 = .ok (.aload_n 0, 1) := by decide +kernel
theorem dX12_init_263 : decode cX12_init 263 = .ok (.bipush 24, 2) := by decide +kernel
theorem dX12_init_265 : decode cX12_init 265 = .ok (.newarray .int, 2) := by decide +kernel
theorem dX12_init_267 : decode cX12_init 267 = .ok (.putfield 106, 3) := by decide +kernel
theorem dX12_init_270 : decode cX12_init 270 = .ok (.aload_n 0, 1) := by decide +kernel
theorem dX12_init_271 : decode cX12_init 271 = .ok (.bipush 24, 2) := by decide +kernel
theorem dX12_init_273 : decode cX12_init 273 = .ok (.newarray .boolean, 2) := by decide +kernel
theorem dX12_init_275 : decode cX12_init 275 = .ok (.putfield 109, 3) := by decide +kernel
theorem dX12_init_278 : decode cX12_init 278 = .ok (.aload_n 0, 1) := by decide +kernel
theorem dX12_init_279 : decode cX12_init 279 = .ok (.bipush 8, 2) := by decide +kernel
theorem dX12_init_281 : decode cX12_init 281 = .ok (.newarray .int, 2) := by decide +kernel
theorem dX12_init_283 : decode cX12_init 283 = .ok (.putfield 112, 3) := by decide +kernel
theorem dX12_init_286 : decode cX12_init 286 = .ok (.aload_n 0, 1) := by decide +kernel
theorem dX12_init_287 : decode cX12_init 287 = .ok (.bipush 8, 2) := by decide +kernel
theorem dX12_init_289 : decode cX12_init 289 = .ok (.newarray .boolean, 2) := by decide +kernel
theorem dX12_init_291 : decode cX12_init 291 = .ok (.putfield 115, 3) := by decide +kernel
theorem dX12_init_294 : decode cX12_init 294 = .ok (.aload_n 0, 1) := by decide +kernel
theorem dX12_init_295 : decode cX12_init 295 = .ok (.bipush 8, 2) := by decide +kernel
theorem dX12_init_297 : decode cX12_init 297 = .ok (.newarray .boolean, 2) := by decide +kernel
theorem dX12_init_299 : decode cX12_init 299 = .ok (.putfield 118, 3) := by decide +kernel
theorem dX12_init_302 : decode cX12_init 302 = .ok (.aload_n 0, 1) := by decide +kernel
theorem dX12_init_303 : decode cX12_init 303 = .ok (.sipush 192, 3) := by decide +kernel
theorem dX12_init_306 : decode cX12_init 306 = .ok (.newarray .int, 2) := by decide +kernel
theorem dX12_init_308 : decode cX12_init 308 = .ok (.putfield 121, 3) := by decide +kernel
theorem dX12_init_311 : decode cX12_init 311 = .ok (.aload_n 0, 1) := by decide +kernel
theorem dX12_init_312 : decode cX12_init 312 = .ok (.bipush 8, 2) := by decide +kernel
theorem dX12_init_314 : decode cX12_init 314 = .ok (.newarray .long, 2) := by decide +kernel
theorem dX12_init_316 : decode cX12_init 316 = .ok (.putfield 124, 3) := by decide +kernel
theorem dX12_init_319 : decode cX12_init 319 = .ok (.aload_n 0, 1) := by decide +kernel
theorem dX12_init_320 : decode cX12_init 320 = .ok (.ldc 128, 2) := by decide +kernel
theorem dX12_init_322 : decode cX12_init 322 = .ok (.newarray .long, 2) := by decide +kernel
theorem dX12_init_324 : decode cX12_init 324 = .ok (.putfield 129, 3) := by decide +kernel
theorem dX12_init_327 : decode cX12_init 327 = .ok (.aload_n 0, 1) := by decide +kernel
theorem dX12_init_328 : decode cX12_init 328 = .ok (.bipush 100, 2) := by decide +kernel
theorem dX12_init_330 : decode cX12_init 330 = .ok (.newarray .int, 2) := by decide +kernel
theorem dX12_init_332 : decode cX12_init 332 = .ok (.putfield 132, 3) := by decide +kernel
theorem dX12_init_335 : decode cX12_init 335 = .ok (.aload_n 0, 1) := by decide +kernel
theorem dX12_init_336 : decode cX12_init 336 = .ok (.bipush 48, 2) := by decide +kernel
theorem dX12_init_338 : decode cX12_init 338 = .ok (.newarray .int, 2) := by decide +kernel
theorem dX12_init_340 : decode cX12_init 340 = .ok (.putfield 135, 3) := by decide +kernel
theorem dX12_init_343 : decode cX12_init 343 = .ok (.aload_n 0, 1) := by decide +kernel
theorem dX12_init_344 : decode cX12_init 344 = .ok (.bipush 72, 2) := by decide +kernel
theorem dX12_init_346 : decode cX12_init 346 = .ok (.newarray .int, 2) := by decide +kernel
theorem dX12_init_348 : decode cX12_init 348 = .ok (.putfield 138, 3) := by decide +kernel
theorem dX12_init_351 : decode cX12_init 351 = .ok (.aload_n 0, 1) := by decide +kernel
theorem dX12_init_352 : decode cX12_init 352 = .ok (.bipush 36, 2) := by decide +kernel
theorem dX12_init_354 : decode cX12_init 354 = .ok (.newarray .int, 2) := by decide +kernel
theorem dX12_init_356 : decode cX12_init 356 = .ok (.putfield 141, 3) := by decide +kernel
theorem dX12_init_359 : decode cX12_init 359 = .ok (.aload_n 0, 1) := by decide +kernel
theorem dX12_init_360 : decode cX12_init 360 = .ok (.bipush 6, 2) := by decide +kernel
theorem dX12_init_362 : decode cX12_init 362 = .ok (.newarray .boolean, 2) := by decide +kernel
theorem dX12_init_364 : decode cX12_init 364 = .ok (.putfield 144, 3) := by decide +kernel
theorem dX12_init_367 : decode cX12_init 367 = .ok (.aload_n 0, 1) := by decide +kernel
theorem dX12_init_368 : decode cX12_init 368 = .ok (.bipush 6, 2) := by decide +kernel
theorem dX12_init_370 : decode cX12_init 370 = .ok (.newarray .int, 2) := by decide +kernel
theorem dX12_init_372 : decode cX12_init 372 = .ok (.putfield 147, 3) := by decide +kernel
theorem dX12_init_375 : decode cX12_init 375 = .ok (.aload_n 0, 1) := by decide +kernel
theorem dX12_init_376 : decode cX12_init 376 = .ok (.bipush 24, 2) := by decide +kernel
theorem dX12_init_378 : decode cX12_init 378 = .ok (.newarray .int, 2) := by decide +kernel
theorem dX12_init_380 : decode cX12_init 380 = .ok (.putfield 150, 3) := by decide +kernel
theorem dX12_init_383 : decode cX12_init 383 = .ok (.iconst 0, 1) := by decide +kernel
theorem dX12_init_384 : decode cX12_init 384 = .ok (.istore_n 1, 1) := by decide +kernel
theorem dX12_init_385 : decode cX12_init 385 = .ok (.iload_n 1, 1) := by decide +kernel
theorem dX12_init_386 : decode cX12_init 386 = .ok (.bipush 6, 2) := by decide +kernel
theorem dX12_init_388 : decode cX12_init 388 = .ok (.if_icmp .ge 16, 3) := by decide +kernel
theorem dX12_init_391 : decode cX12_init 391 = .ok (.aload_n 0, 1) := by decide +kernel
theorem dX12_init_392 : decode cX12_init 392 = .ok (.getfield 147, 3) := by decide +kernel
theorem dX12_init_395 : decode cX12_init 395 = .ok (.iload_n 1, 1) := by decide +kernel
theorem dX12_init_396 : decode cX12_init 396 = .ok (.iconst (-1), 1) := by decide +kernel
theorem dX12_init_397 : decode cX12_init 397 = .ok (.iastore, 1) := by decide +kernel
theorem dX12_init_398 : decode cX12_init 398 = .ok (.iinc 1 1, 3) := by decide +kernel
theorem dX12_init_401 : decode cX12_init 401 = .ok (.goto (-16), 3) := by decide +kernel
theorem dX12_init_404 : decode cX12_init 404 = .ok (.iconst 0, 1) := by decide +kernel
theorem dX12_init_405 : decode cX12_init 405 = .ok (.istore_n 1, 1) := by decide +kernel
theorem dX12_init_406 : decode cX12_init 406 = .ok (.iload_n 1, 1) := by decide +kernel
theorem dX12_init_407 : decode cX12_init 407 = .ok (.bipush 48, 2) := by decide +kernel
theorem dX12_init_409 : decode cX12_init 409 = .ok (.if_icmp .ge 16, 3) := by decide +kernel
theorem dX12_init_412 : decode cX12_init 412 = .ok (.aload_n 0, 1) := by decide +kernel
theorem dX12_init_413 : decode cX12_init 413 = .ok (.getfield 135, 3) := by decide +kernel
theorem dX12_init_416 : decode cX12_init 416 = .ok (.iload_n 1, 1) := by decide +kernel
theorem dX12_init_417 : decode cX12_init 417 = .ok (.iconst (-1), 1) := by decide +kernel
theorem dX12_init_418 : decode cX12_init 418 = .ok (.iastore, 1) := by decide +kernel
theorem dX12_init_419 : decode cX12_init 419 = .ok (.iinc 1 1, 3) := by decide +kernel
theorem dX12_init_422 : decode cX12_init 422 = .ok (.goto (-16), 3) := by decide +kernel
theorem dX12_init_425 : decode cX12_init 425 = .ok (.return_, 1) := by decide +kernel
theorem dX12_pitch_0 : decode cX12_pitch 0 = .ok (.iload_n 1, 1) := by decide +kernel
theorem dX12_pitch_1 : decode cX12_pitch 1 = .ok (.i2l, 1) := by decide +kernel
theorem dX12_pitch_2 : decode cX12_pitch 2 = .ok (.lconst 1, 1) := by decide +kernel
theorem dX12_pitch_3 : decode cX12_pitch 3 = .ok (.ldc2_w 153, 3) := by decide +kernel
theorem dX12_pitch_6 : decode cX12_pitch 6 = .ok (.invokestatic 155, 3) := by decide +kernel
theorem dX12_pitch_9 : decode cX12_pitch 9 = .ok (.ifCond .ne 5, 3) := by decide +kernel
theorem dX12_pitch_12 : decode cX12_pitch 12 = .ok (.iconst 0, 1) := by decide +kernel
theorem dX12_pitch_13 : decode cX12_pitch 13 = .ok (.ireturn, 1) := by decide +kernel
theorem dX12_pitch_14 : decode cX12_pitch 14 = .ok (.aload_n 0, 1) := by decide +kernel
theorem dX12_pitch_15 : decode cX12_pitch 15 = .ok (.iload_n 1, 1) := by decide +kernel
theorem dX12_pitch_16 : decode cX12_pitch 16 = .ok (.putfield 13, 3) := by decide +kernel
theorem dX12_pitch_19 : decode cX12_pitch 19 = .ok (.iconst 1, 1) := by decide +kernel
theorem dX12_pitch_20 : decode cX12_pitch 20 = .ok (.ireturn, 1) := by decide +kernel
theorem dX12_isIn_0 : decode cX12_isIn 0 = .ok (.lload_n 0, 1) := by decide +kernel
theorem dX12_isIn_1 : decode cX12_isIn 1 = .ok (.lload_n 2, 1) := by decide +kernel
theorem dX12_isIn_2 : decode cX12_isIn 2 = .ok (.lcmp, 1) := by decide +kernel
theorem dX12_isIn_3 : decode cX12_isIn 3 = .ok (.ifCond .lt 14, 3) := by decide +kernel
theorem dX12_isIn_6 : decode cX12_isIn 6 = .ok (.lload_n 0, 1) := by decide +kernel
theorem dX12_isIn_7 : decode cX12_isIn 7 = .ok (.lload 4, 2) := by decide +kernel
theorem dX12_isIn_9 : decode cX12_isIn 9 = .ok (.lcmp, 1) := by decide +kernel
theorem dX12_isIn_10 : decode cX12_isIn 10 = .ok (.ifCond .gt 7, 3) := by decide +kernel
theorem dX12_isIn_13 : decode cX12_isIn 13 = .ok (.iconst 1, 1) := by decide +kernel
theorem dX12_isIn_14 : decode cX12_isIn 14 = .ok (.goto 4, 3) := by decide +kernel
theorem dX12_isIn_17 : decode cX12_isIn 17 = .ok (.iconst 0, 1) := by decide +kernel
theorem dX12_isIn_18 : decode cX12_isIn 18 = .ok (.ireturn, 1) := by decide +kernel
theorem dX12_seed_0 : decode cX12_seed 0 = .ok (.iload_n 1, 1) := by decide +kernel
theorem dX12_seed_1 : decode cX12_seed 1 = .ok (.i2l, 1) := by decide +kernel
theorem dX12_seed_2 : decode cX12_seed 2 = .ok (.lconst 0, 1) := by decide +kernel
theorem dX12_seed_3 : decode cX12_seed 3 = .ok (.ldc2_w 159, 3) := by decide +kernel
theorem dX12_seed_6 : decode cX12_seed 6 = .ok (.invokestatic 155, 3) := by decide +kernel
theorem dX12_seed_9 : decode cX12_seed 9 = .ok (.ifCond .ne 5, 3) := by decide +kernel
theorem dX12_seed_12 : decode cX12_seed 12 = .ok (.iconst 0, 1) := by decide +kernel
theorem dX12_seed_13 : decode cX12_seed 13 = .ok (.ireturn, 1) := by decide +kernel
theorem dX12_seed_14 : decode cX12_seed 14 = .ok (.aload_n 0, 1) := by decide +kernel
theorem dX12_seed_15 : decode cX12_seed 15 = .ok (.iload_n 1, 1) := by decide +kernel
theorem dX12_seed_16 : decode cX12_seed 16 = .ok (.putfield 17, 3) := by decide +kernel
theorem dX12_seed_19 : decode cX12_seed 19 = .ok (.iconst 1, 1) := by decide +kernel
theorem dX12_seed_20 : decode cX12_seed 20 = .ok (.ireturn, 1) := by decide +kernel
theorem dX12_push_0 : decode cX12_push 0 = .ok (.bipush 24, 2) := by decide +kernel
theorem dX12_push_2 : decode cX12_push 2 = .ok (.istore_n 2, 1) := by decide +kernel
theorem dX12_push_3 : decode cX12_push 3 = .ok (.iload_n 2, 1) := by decide +kernel
theorem dX12_push_4 : decode cX12_push 4 = .ok (.ifCond .lt 32, 3) := by decide +kernel
theorem dX12_push_7 : decode cX12_push 7 = .ok (.aload_n 0, 1) := by decide +kernel
theorem dX12_push_8 : decode cX12_push 8 = .ok (.getfield 7, 3) := by decide +kernel
theorem dX12_push_11 : decode cX12_push 11 = .ok (.aload_n 0, 1) := by decide +kernel
theorem dX12_push_12 : decode cX12_push 12 = .ok (.getfield 162, 3) := by decide +kernel
theorem dX12_push_15 : decode cX12_push 15 = .ok (.iload_n 1, 1) := by decide +kernel
theorem dX12_push_16 : decode cX12_push 16 = .ok (.iload_n 2, 1) := by decide +kernel
theorem dX12_push_17 : decode cX12_push 17 = .ok (.ishr, 1) := by decide +kernel
theorem dX12_push_18 : decode cX12_push 18 = .ok (.i2b, 1) := by decide +kernel
theorem dX12_push_19 : decode cX12_push 19 = .ok (.bastore, 1) := by decide +kernel
theorem dX12_push_20 : decode cX12_push 20 = .ok (.aload_n 0, 1) := by decide +kernel
theorem dX12_push_21 : decode cX12_push 21 = .ok (.dup, 1) := by decide +kernel
theorem dX12_push_22 : decode cX12_push 22 = .ok (.getfield 162, 3) := by decide +kernel
theorem dX12_push_25 : decode cX12_push 25 = .ok (.iconst 1, 1) := by decide +kernel
theorem dX12_push_26 : decode cX12_push 26 = .ok (.iadd, 1) := by decide +kernel
theorem dX12_push_27 : decode cX12_push 27 = .ok (.putfield 162, 3) := by decide +kernel
theorem dX12_push_30 : decode cX12_push 30 = .ok (.iinc 2 (-8), 3) := by decide +kernel
theorem dX12_push_33 : decode cX12_push 33 = .ok (.goto (-30), 3) := by decide +kernel
theorem dX12_push_36 : decode cX12_push 36 = .ok (.return_, 1) := by decide +kernel
theorem dX12_feed_0 : decode cX12_feed 0 = .ok (.aload_n 0, 1) := by decide +kernel
theorem dX12_feed_1 : decode cX12_feed 1 = .ok (.getfield 162, 3) := by decide +kernel
theorem dX12_feed_4 : decode cX12_feed 4 = .ok (.bipush 20, 2) := by decide +kernel
theorem dX12_feed_6 : decode cX12_feed 6 = .ok (.iadd, 1) := by decide +kernel
theorem dX12_feed_7 : decode cX12_feed 7 = .ok (.sipush 220, 3) := by decide +kernel
theorem dX12_feed_10 : decode cX12_feed 10 = .ok (.if_icmp .le 5, 3) := by decide +kernel
end
section
theorem dX12_feed_13 : decode cX12_feed 13 = .ok (.iconst (-1), 1) := by decide +kernel
theorem dX12_feed_14 : decode cX12_feed 14 = .ok (.ireturn, 1) := by decide +kernel
theorem dX12_feed_15 : decode cX12_feed 15 = .ok (.aload_n 0, 1) := by decide +kernel
theorem dX12_feed_16 : decode cX12_feed 16 = .ok (.iload_n 1, 1) := by decide +kernel
theorem dX12_feed_17 : decode cX12_feed 17 = .ok (.invokevirtual 165, 3) := by decide +kernel
theorem dX12_feed_20 : decode cX12_feed 20 = .ok (.aload_n 0, 1) := by decide +kernel
theorem dX12_feed_21 : decode cX12_feed 21 = .ok (.iload_n 2, 1) := by decide +kernel
theorem dX12_feed_22 : decode cX12_feed 22 = .ok (.invokevirtual 165, 3) := by decide +kernel
theorem dX12_feed_25 : decode cX12_feed 25 = .ok (.aload_n 0, 1) := by decide +kernel
theorem dX12_feed_26 : decode cX12_feed 26 = .ok (.iload_n 3, 1) := by decide +kernel
theorem dX12_feed_27 : decode cX12_feed 27 = .ok (.invokevirtual 165, 3) := by decide +kernel
theorem dX12_feed_30 : decode cX12_feed 30 = .ok (.aload_n 0, 1) := by decide +kernel
theorem dX12_feed_31 : decode cX12_feed 31 = .ok (.iload 4, 2) := by decide +kernel
theorem dX12_feed_33 : decode cX12_feed 33 = .ok (.invokevirtual 165, 3) := by decide +kernel
theorem dX12_feed_36 : decode cX12_feed 36 = .ok (.aload_n 0, 1) := by decide +kernel
theorem dX12_feed_37 : decode cX12_feed 37 = .ok (.iload 5, 2) := by decide +kernel
theorem dX12_feed_39 : decode cX12_feed 39 = .ok (.invokevirtual 165, 3) := by decide +kernel
theorem dX12_feed_42 : decode cX12_feed 42 = .ok (.aload_n 0, 1) := by decide +kernel
theorem dX12_feed_43 : decode cX12_feed 43 = .ok (.getfield 162, 3) := by decide +kernel
theorem dX12_feed_46 : decode cX12_feed 46 = .ok (.ireturn, 1) := by decide +kernel
theorem dX12_readsText_0 : decode cX12_readsText 0 = .ok (.iload_n 2, 1) := by decide +kernel
theorem dX12_readsText_1 : decode cX12_readsText 1 = .ok (.i2l, 1) := by decide +kernel
theorem dX12_readsText_2 : decode cX12_readsText 2 = .ok (.lconst 1, 1) := by decide +kernel
theorem dX12_readsText_3 : decode cX12_readsText 3 = .ok (.ldc2_w 276, 3) := by decide +kernel
theorem dX12_readsText_6 : decode cX12_readsText 6 = .ok (.invokestatic 155, 3) := by decide +kernel
theorem dX12_readsText_9 : decode cX12_readsText 9 = .ok (.ifCond .eq 11, 3) := by decide +kernel
theorem dX12_readsText_12 : decode cX12_readsText 12 = .ok (.iload_n 2, 1) := by decide +kernel
theorem dX12_readsText_13 : decode cX12_readsText 13 = .ok (.aload_n 0, 1) := by decide +kernel
theorem dX12_readsText_14 : decode cX12_readsText 14 = .ok (.getfield 162, 3) := by decide +kernel
theorem dX12_readsText_17 : decode cX12_readsText 17 = .ok (.if_icmp .le 5, 3) := by decide +kernel
theorem dX12_readsText_20 : decode cX12_readsText 20 = .ok (.iconst (-1), 1) := by decide +kernel
theorem dX12_readsText_21 : decode cX12_readsText 21 = .ok (.ireturn, 1) := by decide +kernel
theorem dX12_readsText_22 : decode cX12_readsText 22 = .ok (.aload_n 0, 1) := by decide +kernel
theorem dX12_readsText_23 : decode cX12_readsText 23 = .ok (.iconst 0, 1) := by decide +kernel
theorem dX12_readsText_24 : decode cX12_readsText 24 = .ok (.putfield 162, 3) := by decide +kernel
theorem dX12_readsText_27 : decode cX12_readsText 27 = .ok (.aload_n 0, 1) := by decide +kernel
theorem dX12_readsText_28 : decode cX12_readsText 28 = .ok (.iconst 0, 1) := by decide +kernel
theorem dX12_readsText_29 : decode cX12_readsText 29 = .ok (.putfield 169, 3) := by decide +kernel
theorem dX12_readsText_32 : decode cX12_readsText 32 = .ok (.aload_n 0, 1) := by decide +kernel
theorem dX12_readsText_33 : decode cX12_readsText 33 = .ok (.iload_n 2, 1) := by decide +kernel
theorem dX12_readsText_34 : decode cX12_readsText 34 = .ok (.putfield 172, 3) := by decide +kernel
theorem dX12_readsText_37 : decode cX12_readsText 37 = .ok (.aload_n 0, 1) := by decide +kernel
theorem dX12_readsText_38 : decode cX12_readsText 38 = .ok (.iconst 0, 1) := by decide +kernel
theorem dX12_readsText_39 : decode cX12_readsText 39 = .ok (.putfield 175, 3) := by decide +kernel
theorem dX12_readsText_42 : decode cX12_readsText 42 = .ok (.aload_n 0, 1) := by decide +kernel
theorem dX12_readsText_43 : decode cX12_readsText 43 = .ok (.iconst 0, 1) := by decide +kernel
theorem dX12_readsText_44 : decode cX12_readsText 44 = .ok (.putfield 270, 3) := by decide +kernel
theorem dX12_readsText_47 : decode cX12_readsText 47 = .ok (.aload_n 0, 1) := by decide +kernel
theorem dX12_readsText_48 : decode cX12_readsText 48 = .ok (.iconst 0, 1) := by decide +kernel
theorem dX12_readsText_49 : decode cX12_readsText 49 = .ok (.putfield 182, 3) := by decide +kernel
theorem dX12_readsText_52 : decode cX12_readsText 52 = .ok (.iconst 1, 1) := by decide +kernel
theorem dX12_readsText_53 : decode cX12_readsText 53 = .ok (.istore_n 3, 1) := by decide +kernel
theorem dX12_readsText_54 : decode cX12_readsText 54 = .ok (.iload_n 3, 1) := by decide +kernel
theorem dX12_readsText_55 : decode cX12_readsText 55 = .ok (.ifCond .eq 74, 3) := by decide +kernel
theorem dX12_readsText_58 : decode cX12_readsText 58 = .ok (.aload_n 0, 1) := by decide +kernel
theorem dX12_readsText_59 : decode cX12_readsText 59 = .ok (.invokevirtual 178, 3) := by decide +kernel
theorem dX12_readsText_62 : decode cX12_readsText 62 = .ok (.ifCond .eq 67, 3) := by decide +kernel
theorem dX12_readsText_65 : decode cX12_readsText 65 = .ok (.aload_n 0, 1) := by decide +kernel
theorem dX12_readsText_66 : decode cX12_readsText 66 = .ok (.iload_n 1, 1) := by decide +kernel
theorem dX12_readsText_67 : decode cX12_readsText 67 = .ok (.invokevirtual 278, 3) := by decide +kernel
theorem dX12_readsText_70 : decode cX12_readsText 70 = .ok (.aload_n 0, 1) := by decide +kernel
theorem dX12_readsText_71 : decode cX12_readsText 71 = .ok (.invokevirtual 178, 3) := by decide +kernel
theorem dX12_readsText_74 : decode cX12_readsText 74 = .ok (.ifCond .eq 18, 3) := by decide +kernel
theorem dX12_readsText_77 : decode cX12_readsText 77 = .ok (.aload_n 0, 1) := by decide +kernel
theorem dX12_readsText_78 : decode cX12_readsText 78 = .ok (.getfield 169, 3) := by decide +kernel
theorem dX12_readsText_81 : decode cX12_readsText 81 = .ok (.aload_n 0, 1) := by decide +kernel
theorem dX12_readsText_82 : decode cX12_readsText 82 = .ok (.getfield 172, 3) := by decide +kernel
theorem dX12_readsText_85 : decode cX12_readsText 85 = .ok (.if_icmp .ge 7, 3) := by decide +kernel
theorem dX12_readsText_88 : decode cX12_readsText 88 = .ok (.iconst 1, 1) := by decide +kernel
theorem dX12_readsText_89 : decode cX12_readsText 89 = .ok (.goto 4, 3) := by decide +kernel
theorem dX12_readsText_92 : decode cX12_readsText 92 = .ok (.iconst 0, 1) := by decide +kernel
theorem dX12_readsText_93 : decode cX12_readsText 93 = .ok (.istore_n 3, 1) := by decide +kernel
theorem dX12_readsText_94 : decode cX12_readsText 94 = .ok (.iload_n 3, 1) := by decide +kernel
theorem dX12_readsText_95 : decode cX12_readsText 95 = .ok (.ifCond .eq (-41), 3) := by decide +kernel
theorem dX12_readsText_98 : decode cX12_readsText 98 = .ok (.aload_n 0, 1) := by decide +kernel
theorem dX12_readsText_99 : decode cX12_readsText 99 = .ok (.invokevirtual 195, 3) := by decide +kernel
theorem dX12_readsText_102 : decode cX12_readsText 102 = .ok (.bipush 59, 2) := by decide +kernel
theorem dX12_readsText_104 : decode cX12_readsText 104 = .ok (.if_icmp .eq 12, 3) := by decide +kernel
theorem dX12_readsText_107 : decode cX12_readsText 107 = .ok (.aload_n 0, 1) := by decide +kernel
theorem dX12_readsText_108 : decode cX12_readsText 108 = .ok (.iconst 1, 1) := by decide +kernel
theorem dX12_readsText_109 : decode cX12_readsText 109 = .ok (.aload_n 0, 1) := by decide +kernel
theorem dX12_readsText_110 : decode cX12_readsText 110 = .ok (.getfield 169, 3) := by decide +kernel
theorem dX12_readsText_113 : decode cX12_readsText 113 = .ok (.invokevirtual 191, 3) := by decide +kernel
theorem dX12_readsText_116 : decode cX12_readsText 116 = .ok (.aload_n 0, 1) := by decide +kernel
theorem dX12_readsText_117 : decode cX12_readsText 117 = .ok (.dup, 1) := by decide +kernel
theorem dX12_readsText_118 : decode cX12_readsText 118 = .ok (.getfield 169, 3) := by decide +kernel
theorem dX12_readsText_121 : decode cX12_readsText 121 = .ok (.iconst 1, 1) := by decide +kernel
theorem dX12_readsText_122 : decode cX12_readsText 122 = .ok (.iadd, 1) := by decide +kernel
theorem dX12_readsText_123 : decode cX12_readsText 123 = .ok (.putfield 169, 3) := by decide +kernel
theorem dX12_readsText_126 : decode cX12_readsText 126 = .ok (.goto (-72), 3) := by decide +kernel
theorem dX12_readsText_129 : decode cX12_readsText 129 = .ok (.aload_n 0, 1) := by decide +kernel
theorem dX12_readsText_130 : decode cX12_readsText 130 = .ok (.getfield 175, 3) := by decide +kernel
theorem dX12_readsText_133 : decode cX12_readsText 133 = .ok (.ifCond .ge 8, 3) := by decide +kernel
theorem dX12_readsText_136 : decode cX12_readsText 136 = .ok (.aload_n 0, 1) := by decide +kernel
theorem dX12_readsText_137 : decode cX12_readsText 137 = .ok (.getfield 175, 3) := by decide +kernel
theorem dX12_readsText_140 : decode cX12_readsText 140 = .ok (.ireturn, 1) := by decide +kernel
theorem dX12_readsText_141 : decode cX12_readsText 141 = .ok (.iconst 0, 1) := by decide +kernel
theorem dX12_readsText_142 : decode cX12_readsText 142 = .ok (.istore 4, 2) := by decide +kernel
theorem dX12_readsText_144 : decode cX12_readsText 144 = .ok (.iload 4, 2) := by decide +kernel
theorem dX12_readsText_146 : decode cX12_readsText 146 = .ok (.aload_n 0, 1) := by decide +kernel
theorem dX12_readsText_147 : decode cX12_readsText 147 = .ok (.getfield 270, 3) := by decide +kernel
theorem dX12_readsText_150 : decode cX12_readsText 150 = .ok (.if_icmp .ge 103, 3) := by decide +kernel
theorem dX12_readsText_153 : decode cX12_readsText 153 = .ok (.aload_n 0, 1) := by decide +kernel
theorem dX12_readsText_154 : decode cX12_readsText 154 = .ok (.getfield 24, 3) := by decide +kernel
theorem dX12_readsText_157 : decode cX12_readsText 157 = .ok (.bipush 14, 2) := by decide +kernel
theorem dX12_readsText_159 : decode cX12_readsText 159 = .ok (.iload_n 1, 1) := by decide +kernel
theorem dX12_readsText_160 : decode cX12_readsText 160 = .ok (.imul, 1) := by decide +kernel
theorem dX12_readsText_161 : decode cX12_readsText 161 = .ok (.iload 4, 2) := by decide +kernel
theorem dX12_readsText_163 : decode cX12_readsText 163 = .ok (.iadd, 1) := by decide +kernel
theorem dX12_readsText_164 : decode cX12_readsText 164 = .ok (.aload_n 0, 1) := by decide +kernel
theorem dX12_readsText_165 : decode cX12_readsText 165 = .ok (.getfield 42, 3) := by decide +kernel
theorem dX12_readsText_168 : decode cX12_readsText 168 = .ok (.iload 4, 2) := by decide +kernel
theorem dX12_readsText_170 : decode cX12_readsText 170 = .ok (.iaload, 1) := by decide +kernel
theorem dX12_readsText_171 : decode cX12_readsText 171 = .ok (.iastore, 1) := by decide +kernel
theorem dX12_readsText_172 : decode cX12_readsText 172 = .ok (.aload_n 0, 1) := by decide +kernel
theorem dX12_readsText_173 : decode cX12_readsText 173 = .ok (.getfield 27, 3) := by decide +kernel
theorem dX12_readsText_176 : decode cX12_readsText 176 = .ok (.bipush 14, 2) := by decide +kernel
theorem dX12_readsText_178 : decode cX12_readsText 178 = .ok (.iload_n 1, 1) := by decide +kernel
theorem dX12_readsText_179 : decode cX12_readsText 179 = .ok (.imul, 1) := by decide +kernel
theorem dX12_readsText_180 : decode cX12_readsText 180 = .ok (.iload 4, 2) := by decide +kernel
theorem dX12_readsText_182 : decode cX12_readsText 182 = .ok (.iadd, 1) := by decide +kernel
theorem dX12_readsText_183 : decode cX12_readsText 183 = .ok (.sipush 200, 3) := by decide +kernel
theorem dX12_readsText_186 : decode cX12_readsText 186 = .ok (.iload_n 1, 1) := by decide +kernel
theorem dX12_readsText_187 : decode cX12_readsText 187 = .ok (.imul, 1) := by decide +kernel
theorem dX12_readsText_188 : decode cX12_readsText 188 = .ok (.aload_n 0, 1) := by decide +kernel
theorem dX12_readsText_189 : decode cX12_readsText 189 = .ok (.getfield 45, 3) := by decide +kernel
theorem dX12_readsText_192 : decode cX12_readsText 192 = .ok (.iload 4, 2) := by decide +kernel
theorem dX12_readsText_194 : decode cX12_readsText 194 = .ok (.iaload, 1) := by decide +kernel
theorem dX12_readsText_195 : decode cX12_readsText 195 = .ok (.iadd, 1) := by decide +kernel
theorem dX12_readsText_196 : decode cX12_readsText 196 = .ok (.iastore, 1) := by decide +kernel
theorem dX12_readsText_197 : decode cX12_readsText 197 = .ok (.aload_n 0, 1) := by decide +kernel
theorem dX12_readsText_198 : decode cX12_readsText 198 = .ok (.getfield 30, 3) := by decide +kernel
theorem dX12_readsText_201 : decode cX12_readsText 201 = .ok (.bipush 14, 2) := by decide +kernel
theorem dX12_readsText_203 : decode cX12_readsText 203 = .ok (.iload_n 1, 1) := by decide +kernel
theorem dX12_readsText_204 : decode cX12_readsText 204 = .ok (.imul, 1) := by decide +kernel
theorem dX12_readsText_205 : decode cX12_readsText 205 = .ok (.iload 4, 2) := by decide +kernel
theorem dX12_readsText_207 : decode cX12_readsText 207 = .ok (.iadd, 1) := by decide +kernel
theorem dX12_readsText_208 : decode cX12_readsText 208 = .ok (.sipush 200, 3) := by decide +kernel
theorem dX12_readsText_211 : decode cX12_readsText 211 = .ok (.iload_n 1, 1) := by decide +kernel
theorem dX12_readsText_212 : decode cX12_readsText 212 = .ok (.imul, 1) := by decide +kernel
theorem dX12_readsText_213 : decode cX12_readsText 213 = .ok (.aload_n 0, 1) := by decide +kernel
theorem dX12_readsText_214 : decode cX12_readsText 214 = .ok (.getfield 48, 3) := by decide +kernel
theorem dX12_readsText_217 : decode cX12_readsText 217 = .ok (.iload 4, 2) := by decide +kernel
theorem dX12_readsText_219 : decode cX12_readsText 219 = .ok (.iaload, 1) := by decide +kernel
theorem dX12_readsText_220 : decode cX12_readsText 220 = .ok (.iadd, 1) := by decide +kernel
theorem dX12_readsText_221 : decode cX12_readsText 221 = .ok (.iastore, 1) := by decide +kernel
theorem dX12_readsText_222 : decode cX12_readsText 222 = .ok (.aload_n 0, 1) := by decide +kernel
theorem dX12_readsText_223 : decode cX12_readsText 223 = .ok (.getfield 33, 3) := by decide +kernel
theorem dX12_readsText_226 : decode cX12_readsText 226 = .ok (.bipush 14, 2) := by decide +kernel
theorem dX12_readsText_228 : decode cX12_readsText 228 = .ok (.iload_n 1, 1) := by decide +kernel
theorem dX12_readsText_229 : decode cX12_readsText 229 = .ok (.imul, 1) := by decide +kernel
theorem dX12_readsText_230 : decode cX12_readsText 230 = .ok (.iload 4, 2) := by decide +kernel
theorem dX12_readsText_232 : decode cX12_readsText 232 = .ok (.iadd, 1) := by decide +kernel
theorem dX12_readsText_233 : decode cX12_readsText 233 = .ok (.sipush 200, 3) := by decide +kernel
theorem dX12_readsText_236 : decode cX12_readsText 236 = .ok (.iload_n 1, 1) := by decide +kernel
theorem dX12_readsText_237 : decode cX12_readsText 237 = .ok (.imul, 1) := by decide +kernel
theorem dX12_readsText_238 : decode cX12_readsText 238 = .ok (.aload_n 0, 1) := by decide +kernel
theorem dX12_readsText_239 : decode cX12_readsText 239 = .ok (.getfield 51, 3) := by decide +kernel
theorem dX12_readsText_242 : decode cX12_readsText 242 = .ok (.iload 4, 2) := by decide +kernel
theorem dX12_readsText_244 : decode cX12_readsText 244 = .ok (.iaload, 1) := by decide +kernel
theorem dX12_readsText_245 : decode cX12_readsText 245 = .ok (.iadd, 1) := by decide +kernel
theorem dX12_readsText_246 : decode cX12_readsText 246 = .ok (.iastore, 1) := by decide +kernel
theorem dX12_readsText_247 : decode cX12_readsText 247 = .ok (.iinc 4 1, 3) := by decide +kernel
theorem dX12_readsText_250 : decode cX12_readsText 250 = .ok (.goto (-106), 3) := by decide +kernel
theorem dX12_readsText_253 : decode cX12_readsText 253 = .ok (.iconst 0, 1) := by decide +kernel
theorem dX12_readsText_254 : decode cX12_readsText 254 = .ok (.istore 4, 2) := by decide +kernel
theorem dX12_readsText_256 : decode cX12_readsText 256 = .ok (.iload 4, 2) := by decide +kernel
theorem dX12_readsText_258 : decode cX12_readsText 258 = .ok (.aload_n 0, 1) := by decide +kernel
theorem dX12_readsText_259 : decode cX12_readsText 259 = .ok (.getfield 182, 3) := by decide +kernel
theorem dX12_readsText_262 : decode cX12_readsText 262 = .ok (.if_icmp .ge 49, 3) := by decide +kernel
theorem dX12_readsText_265 : decode cX12_readsText 265 = .ok (.aload_n 0, 1) := by decide +kernel
theorem dX12_readsText_266 : decode cX12_readsText 266 = .ok (.getfield 36, 3) := by decide +kernel
theorem dX12_readsText_269 : decode cX12_readsText 269 = .ok (.sipush 200, 3) := by decide +kernel
theorem dX12_readsText_272 : decode cX12_readsText 272 = .ok (.iload_n 1, 1) := by decide +kernel
theorem dX12_readsText_273 : decode cX12_readsText 273 = .ok (.imul, 1) := by decide +kernel
theorem dX12_readsText_274 : decode cX12_readsText 274 = .ok (.iload 4, 2) := by decide +kernel
theorem dX12_readsText_276 : decode cX12_readsText 276 = .ok (.iadd, 1) := by decide +kernel
theorem dX12_readsText_277 : decode cX12_readsText 277 = .ok (.aload_n 0, 1) := by decide +kernel
theorem dX12_readsText_278 : decode cX12_readsText 278 = .ok (.getfield 54, 3) := by decide +kernel
theorem dX12_readsText_281 : decode cX12_readsText 281 = .ok (.iload 4, 2) := by decide +kernel
theorem dX12_readsText_283 : decode cX12_readsText 283 = .ok (.iaload, 1) := by decide +kernel
theorem dX12_readsText_284 : decode cX12_readsText 284 = .ok (.iastore, 1) := by decide +kernel
theorem dX12_readsText_285 : decode cX12_readsText 285 = .ok (.aload_n 0, 1) := by decide +kernel
theorem dX12_readsText_286 : decode cX12_readsText 286 = .ok (.getfield 39, 3) := by decide +kernel
theorem dX12_readsText_289 : decode cX12_readsText 289 = .ok (.sipush 200, 3) := by decide +kernel
theorem dX12_readsText_292 : decode cX12_readsText 292 = .ok (.iload_n 1, 1) := by decide +kernel
theorem dX12_readsText_293 : decode cX12_readsText 293 = .ok (.imul, 1) := by decide +kernel
theorem dX12_readsText_294 : decode cX12_readsText 294 = .ok (.iload 4, 2) := by decide +kernel
theorem dX12_readsText_296 : decode cX12_readsText 296 = .ok (.iadd, 1) := by decide +kernel
theorem dX12_readsText_297 : decode cX12_readsText 297 = .ok (.aload_n 0, 1) := by decide +kernel
theorem dX12_readsText_298 : decode cX12_readsText 298 = .ok (.getfield 57, 3) := by decide +kernel
theorem dX12_readsText_301 : decode cX12_readsText 301 = .ok (.iload 4, 2) := by decide +kernel
theorem dX12_readsText_303 : decode cX12_readsText 303 = .ok (.iaload, 1) := by decide +kernel
theorem dX12_readsText_304 : decode cX12_readsText 304 = .ok (.iastore, 1) := by decide +kernel
theorem dX12_readsText_305 : decode cX12_readsText 305 = .ok (.iinc 4 1, 3) := by decide +kernel
theorem dX12_readsText_308 : decode cX12_readsText 308 = .ok (.goto (-52), 3) := by decide +kernel
theorem dX12_readsText_311 : decode cX12_readsText 311 = .ok (.aload_n 0, 1) := by decide +kernel
theorem dX12_readsText_312 : decode cX12_readsText 312 = .ok (.getfield 20, 3) := by decide +kernel
theorem dX12_readsText_315 : decode cX12_readsText 315 = .ok (.iload_n 1, 1) := by decide +kernel
theorem dX12_readsText_316 : decode cX12_readsText 316 = .ok (.aload_n 0, 1) := by decide +kernel
theorem dX12_readsText_317 : decode cX12_readsText 317 = .ok (.getfield 270, 3) := by decide +kernel
theorem dX12_readsText_320 : decode cX12_readsText 320 = .ok (.iastore, 1) := by decide +kernel
theorem dX12_readsText_321 : decode cX12_readsText 321 = .ok (.aload_n 0, 1) := by decide +kernel
theorem dX12_readsText_322 : decode cX12_readsText 322 = .ok (.getfield 270, 3) := by decide +kernel
theorem dX12_readsText_325 : decode cX12_readsText 325 = .ok (.ireturn, 1) := by decide +kernel
theorem dX12_rule_0 : decode cX12_rule 0 = .ok (.aload_n 0, 1) := by decide +kernel
theorem dX12_rule_1 : decode cX12_rule 1 = .ok (.iconst 0, 1) := by decide +kernel
theorem dX12_rule_2 : decode cX12_rule 2 = .ok (.iload_n 1, 1) := by decide +kernel
theorem dX12_rule_3 : decode cX12_rule 3 = .ok (.invokevirtual 281, 3) := by decide +kernel
theorem dX12_rule_6 : decode cX12_rule 6 = .ok (.ireturn, 1) := by decide +kernel
theorem dX12_sand_0 : decode cX12_sand 0 = .ok (.aload_n 0, 1) := by decide +kernel
theorem dX12_sand_1 : decode cX12_sand 1 = .ok (.iconst 1, 1) := by decide +kernel
theorem dX12_sand_2 : decode cX12_sand 2 = .ok (.iload_n 1, 1) := by decide +kernel
theorem dX12_sand_3 : decode cX12_sand 3 = .ok (.invokevirtual 281, 3) := by decide +kernel
theorem dX12_sand_6 : decode cX12_sand 6 = .ok (.ireturn, 1) := by decide +kernel
theorem dX12_stain_0 : decode cX12_stain 0 = .ok (.aload_n 0, 1) := by decide +kernel
theorem dX12_stain_1 : decode cX12_stain 1 = .ok (.iconst 2, 1) := by decide +kernel
theorem dX12_stain_2 : decode cX12_stain 2 = .ok (.iload_n 1, 1) := by decide +kernel
theorem dX12_stain_3 : decode cX12_stain 3 = .ok (.invokevirtual 281, 3) := by decide +kernel
theorem dX12_stain_6 : decode cX12_stain 6 = .ok (.ireturn, 1) := by decide +kernel
theorem dX12_clears_0 : decode cX12_clears 0 = .ok (.aload_n 0, 1) := by decide +kernel
theorem dX12_clears_1 : decode cX12_clears 1 = .ok (.iconst 0, 1) := by decide +kernel
theorem dX12_clears_2 : decode cX12_clears 2 = .ok (.putfield 285, 3) := by decide +kernel
theorem dX12_clears_5 : decode cX12_clears 5 = .ok (.aload_n 0, 1) := by decide +kernel
theorem dX12_clears_6 : decode cX12_clears 6 = .ok (.iconst 0, 1) := by decide +kernel
theorem dX12_clears_7 : decode cX12_clears 7 = .ok (.putfield 288, 3) := by decide +kernel
theorem dX12_clears_10 : decode cX12_clears 10 = .ok (.aload_n 0, 1) := by decide +kernel
theorem dX12_clears_11 : decode cX12_clears 11 = .ok (.iconst 0, 1) := by decide +kernel
theorem dX12_clears_12 : decode cX12_clears 12 = .ok (.putfield 291, 3) := by decide +kernel
theorem dX12_clears_15 : decode cX12_clears 15 = .ok (.aload_n 0, 1) := by decide +kernel
theorem dX12_clears_16 : decode cX12_clears 16 = .ok (.iconst 0, 1) := by decide +kernel
theorem dX12_clears_17 : decode cX12_clears 17 = .ok (.putfield 294, 3) := by decide +kernel
theorem dX12_clears_20 : decode cX12_clears 20 = .ok (.aload_n 0, 1) := by decide +kernel
theorem dX12_clears_21 : decode cX12_clears 21 = .ok (.iconst 0, 1) := by decide +kernel
theorem dX12_clears_22 : decode cX12_clears 22 = .ok (.putfield 297, 3) := by decide +kernel
theorem dX12_clears_25 : decode cX12_clears 25 = .ok (.aload_n 0, 1) := by decide +kernel
theorem dX12_clears_26 : decode cX12_clears 26 = .ok (.iconst 0, 1) := by decide +kernel
theorem dX12_clears_27 : decode cX12_clears 27 = .ok (.putfield 300, 3) := by decide +kernel
theorem dX12_clears_30 : decode cX12_clears 30 = .ok (.aload_n 0, 1) := by decide +kernel
theorem dX12_clears_31 : decode cX12_clears 31 = .ok (.iconst 0, 1) := by decide +kernel
theorem dX12_clears_32 : decode cX12_clears 32 = .ok (.putfield 303, 3) := by decide +kernel
theorem dX12_clears_35 : decode cX12_clears 35 = .ok (.aload_n 0, 1) := by decide +kernel
theorem dX12_clears_36 : decode cX12_clears 36 = .ok (.iconst 0, 1) := by decide +kernel
theorem dX12_clears_37 : decode cX12_clears 37 = .ok (.putfield 306, 3) := by decide +kernel
theorem dX12_clears_40 : decode cX12_clears 40 = .ok (.aload_n 0, 1) := by decide +kernel
theorem dX12_clears_41 : decode cX12_clears 41 = .ok (.iconst 0, 1) := by decide +kernel
theorem dX12_clears_42 : decode cX12_clears 42 = .ok (.putfield 309, 3) := by decide +kernel
theorem dX12_clears_45 : decode cX12_clears 45 = .ok (.aload_n 0, 1) := by decide +kernel
theorem dX12_clears_46 : decode cX12_clears 46 = .ok (.iconst 0, 1) := by decide +kernel
theorem dX12_clears_47 : decode cX12_clears 47 = .ok (.putfield 312, 3) := by decide +kernel
theorem dX12_clears_50 : decode cX12_clears 50 = .ok (.aload_n 0, 1) := by decide +kernel
theorem dX12_clears_51 : decode cX12_clears 51 = .ok (.iconst 0, 1) := by decide +kernel
theorem dX12_clears_52 : decode cX12_clears 52 = .ok (.putfield 315, 3) := by decide +kernel
theorem dX12_clears_55 : decode cX12_clears 55 = .ok (.aload_n 0, 1) := by decide +kernel
theorem dX12_clears_56 : decode cX12_clears 56 = .ok (.iconst 0, 1) := by decide +kernel
theorem dX12_clears_57 : decode cX12_clears 57 = .ok (.putfield 318, 3) := by decide +kernel
theorem dX12_clears_60 : decode cX12_clears 60 = .ok (.aload_n 0, 1) := by decide +kernel
theorem dX12_clears_61 : decode cX12_clears 61 = .ok (.iconst 0, 1) := by decide +kernel
theorem dX12_clears_62 : decode cX12_clears 62 = .ok (.putfield 321, 3) := by decide +kernel
theorem dX12_clears_65 : decode cX12_clears 65 = .ok (.return_, 1) := by decide +kernel
theorem dX12_tells_0 : decode cX12_tells 0 = .ok (.bipush 14, 2) := by decide +kernel
theorem dX12_tells_2 : decode cX12_tells 2 = .ok (.iload_n 1, 1) := by decide +kernel
theorem dX12_tells_3 : decode cX12_tells 3 = .ok (.imul, 1) := by decide +kernel
theorem dX12_tells_4 : decode cX12_tells 4 = .ok (.istore 5, 2) := by decide +kernel
theorem dX12_tells_6 : decode cX12_tells 6 = .ok (.iload 5, 2) := by decide +kernel
theorem dX12_tells_8 : decode cX12_tells 8 = .ok (.bipush 14, 2) := by decide +kernel
theorem dX12_tells_10 : decode cX12_tells 10 = .ok (.iload_n 1, 1) := by decide +kernel
theorem dX12_tells_11 : decode cX12_tells 11 = .ok (.imul, 1) := by decide +kernel
theorem dX12_tells_12 : decode cX12_tells 12 = .ok (.aload_n 0, 1) := by decide +kernel
theorem dX12_tells_13 : decode cX12_tells 13 = .ok (.getfield 20, 3) := by decide +kernel
theorem dX12_tells_16 : decode cX12_tells 16 = .ok (.iload_n 1, 1) := by decide +kernel
theorem dX12_tells_17 : decode cX12_tells 17 = .ok (.iaload, 1) := by decide +kernel
theorem dX12_tells_18 : decode cX12_tells 18 = .ok (.iadd, 1) := by decide +kernel
theorem dX12_tells_19 : decode cX12_tells 19 = .ok (.if_icmp .ge 127, 3) := by decide +kernel
theorem dX12_tells_22 : decode cX12_tells 22 = .ok (.aload_n 0, 1) := by decide +kernel
theorem dX12_tells_23 : decode cX12_tells 23 = .ok (.getfield 24, 3) := by decide +kernel
theorem dX12_tells_26 : decode cX12_tells 26 = .ok (.iload 5, 2) := by decide +kernel
theorem dX12_tells_28 : decode cX12_tells 28 = .ok (.iaload, 1) := by decide +kernel
theorem dX12_tells_29 : decode cX12_tells 29 = .ok (.iload_n 2, 1) := by decide +kernel
theorem dX12_tells_30 : decode cX12_tells 30 = .ok (.if_icmp .eq 6, 3) := by decide +kernel
theorem dX12_tells_33 : decode cX12_tells 33 = .ok (.goto 107, 3) := by decide +kernel
theorem dX12_tells_36 : decode cX12_tells 36 = .ok (.aload_n 0, 1) := by decide +kernel
theorem dX12_tells_37 : decode cX12_tells 37 = .ok (.aload_n 0, 1) := by decide +kernel
theorem dX12_tells_38 : decode cX12_tells 38 = .ok (.getfield 30, 3) := by decide +kernel
theorem dX12_tells_41 : decode cX12_tells 41 = .ok (.iload 5, 2) := by decide +kernel
theorem dX12_tells_43 : decode cX12_tells 43 = .ok (.iaload, 1) := by decide +kernel
theorem dX12_tells_44 : decode cX12_tells 44 = .ok (.aload_n 0, 1) := by decide +kernel
theorem dX12_tells_45 : decode cX12_tells 45 = .ok (.getfield 33, 3) := by decide +kernel
theorem dX12_tells_48 : decode cX12_tells 48 = .ok (.iload 5, 2) := by decide +kernel
theorem dX12_tells_50 : decode cX12_tells 50 = .ok (.iaload, 1) := by decide +kernel
theorem dX12_tells_51 : decode cX12_tells 51 = .ok (.invokevirtual 335, 3) := by decide +kernel
theorem dX12_tells_54 : decode cX12_tells 54 = .ok (.aload_n 0, 1) := by decide +kernel
theorem dX12_tells_55 : decode cX12_tells 55 = .ok (.getfield 66, 3) := by decide +kernel
theorem dX12_tells_58 : decode cX12_tells 58 = .ok (.iconst 0, 1) := by decide +kernel
theorem dX12_tells_59 : decode cX12_tells 59 = .ok (.baload, 1) := by decide +kernel
theorem dX12_tells_60 : decode cX12_tells 60 = .ok (.ifCond .ne 80, 3) := by decide +kernel
theorem dX12_tells_63 : decode cX12_tells 63 = .ok (.aload_n 0, 1) := by decide +kernel
theorem dX12_tells_64 : decode cX12_tells 64 = .ok (.getfield 63, 3) := by decide +kernel
theorem dX12_tells_67 : decode cX12_tells 67 = .ok (.iconst 0, 1) := by decide +kernel
theorem dX12_tells_68 : decode cX12_tells 68 = .ok (.iaload, 1) := by decide +kernel
theorem dX12_tells_69 : decode cX12_tells 69 = .ok (.iconst 1, 1) := by decide +kernel
theorem dX12_tells_70 : decode cX12_tells 70 = .ok (.if_icmp .eq 6, 3) := by decide +kernel
theorem dX12_tells_73 : decode cX12_tells 73 = .ok (.goto 67, 3) := by decide +kernel
theorem dX12_tells_76 : decode cX12_tells 76 = .ok (.aload_n 0, 1) := by decide +kernel
theorem dX12_tells_77 : decode cX12_tells 77 = .ok (.aload_n 0, 1) := by decide +kernel
theorem dX12_tells_78 : decode cX12_tells 78 = .ok (.getfield 27, 3) := by decide +kernel
theorem dX12_tells_81 : decode cX12_tells 81 = .ok (.iload 5, 2) := by decide +kernel
theorem dX12_tells_83 : decode cX12_tells 83 = .ok (.iaload, 1) := by decide +kernel
theorem dX12_tells_84 : decode cX12_tells 84 = .ok (.aload_n 0, 1) := by decide +kernel
theorem dX12_tells_85 : decode cX12_tells 85 = .ok (.getfield 30, 3) := by decide +kernel
theorem dX12_tells_88 : decode cX12_tells 88 = .ok (.iload 5, 2) := by decide +kernel
theorem dX12_tells_90 : decode cX12_tells 90 = .ok (.iaload, 1) := by decide +kernel
theorem dX12_tells_91 : decode cX12_tells 91 = .ok (.invokevirtual 335, 3) := by decide +kernel
theorem dX12_tells_94 : decode cX12_tells 94 = .ok (.aload_n 0, 1) := by decide +kernel
theorem dX12_tells_95 : decode cX12_tells 95 = .ok (.getfield 66, 3) := by decide +kernel
theorem dX12_tells_98 : decode cX12_tells 98 = .ok (.iconst 0, 1) := by decide +kernel
theorem dX12_tells_99 : decode cX12_tells 99 = .ok (.baload, 1) := by decide +kernel
theorem dX12_tells_100 : decode cX12_tells 100 = .ok (.ifCond .eq 7, 3) := by decide +kernel
theorem dX12_tells_103 : decode cX12_tells 103 = .ok (.iconst 0, 1) := by decide +kernel
theorem dX12_tells_104 : decode cX12_tells 104 = .ok (.goto 9, 3) := by decide +kernel
theorem dX12_tells_107 : decode cX12_tells 107 = .ok (.aload_n 0, 1) := by decide +kernel
theorem dX12_tells_108 : decode cX12_tells 108 = .ok (.getfield 63, 3) := by decide +kernel
theorem dX12_tells_111 : decode cX12_tells 111 = .ok (.iconst 0, 1) := by decide +kernel
theorem dX12_tells_112 : decode cX12_tells 112 = .ok (.iaload, 1) := by decide +kernel
theorem dX12_tells_113 : decode cX12_tells 113 = .ok (.istore 6, 2) := by decide +kernel
theorem dX12_tells_115 : decode cX12_tells 115 = .ok (.iload 6, 2) := by decide +kernel
theorem dX12_tells_117 : decode cX12_tells 117 = .ok (.iload_n 3, 1) := by decide +kernel
theorem dX12_tells_118 : decode cX12_tells 118 = .ok (.if_icmp .ge 7, 3) := by decide +kernel
theorem dX12_tells_121 : decode cX12_tells 121 = .ok (.iload_n 3, 1) := by decide +kernel
theorem dX12_tells_122 : decode cX12_tells 122 = .ok (.goto 17, 3) := by decide +kernel
theorem dX12_tells_125 : decode cX12_tells 125 = .ok (.iload 6, 2) := by decide +kernel
theorem dX12_tells_127 : decode cX12_tells 127 = .ok (.iload 4, 2) := by decide +kernel
theorem dX12_tells_129 : decode cX12_tells 129 = .ok (.if_icmp .le 8, 3) := by decide +kernel
theorem dX12_tells_132 : decode cX12_tells 132 = .ok (.iload 4, 2) := by decide +kernel
theorem dX12_tells_134 : decode cX12_tells 134 = .ok (.goto 5, 3) := by decide +kernel
theorem dX12_tells_137 : decode cX12_tells 137 = .ok (.iload 6, 2) := by decide +kernel
theorem dX12_tells_139 : decode cX12_tells 139 = .ok (.ireturn, 1) := by decide +kernel
theorem dX12_tells_140 : decode cX12_tells 140 = .ok (.iinc 5 1, 3) := by decide +kernel
theorem dX12_tells_143 : decode cX12_tells 143 = .ok (.goto (-137), 3) := by decide +kernel
theorem dX12_tells_146 : decode cX12_tells 146 = .ok (.iconst 0, 1) := by decide +kernel
theorem dX12_tells_147 : decode cX12_tells 147 = .ok (.ireturn, 1) := by decide +kernel
theorem dX12_cellOf_0 : decode cX12_cellOf 0 = .ok (.bipush 16, 2) := by decide +kernel
theorem dX12_cellOf_2 : decode cX12_cellOf 2 = .ok (.iload_n 0, 1) := by decide +kernel
theorem dX12_cellOf_3 : decode cX12_cellOf 3 = .ok (.imul, 1) := by decide +kernel
theorem dX12_cellOf_4 : decode cX12_cellOf 4 = .ok (.iconst 2, 1) := by decide +kernel
theorem dX12_cellOf_5 : decode cX12_cellOf 5 = .ok (.iload_n 1, 1) := by decide +kernel
theorem dX12_cellOf_6 : decode cX12_cellOf 6 = .ok (.imul, 1) := by decide +kernel
theorem dX12_cellOf_7 : decode cX12_cellOf 7 = .ok (.iadd, 1) := by decide +kernel
theorem dX12_cellOf_8 : decode cX12_cellOf 8 = .ok (.iload_n 2, 1) := by decide +kernel
theorem dX12_cellOf_9 : decode cX12_cellOf 9 = .ok (.iadd, 1) := by decide +kernel
theorem dX12_cellOf_10 : decode cX12_cellOf 10 = .ok (.ireturn, 1) := by decide +kernel
theorem dX12_isStation_0 : decode cX12_isStation 0 = .ok (.iload_n 1, 1) := by decide +kernel
theorem dX12_isStation_1 : decode cX12_isStation 1 = .ok (.i2l, 1) := by decide +kernel
theorem dX12_isStation_2 : decode cX12_isStation 2 = .ok (.lconst 0, 1) := by decide +kernel
theorem dX12_isStation_3 : decode cX12_isStation 3 = .ok (.aload_n 0, 1) := by decide +kernel
theorem dX12_isStation_4 : decode cX12_isStation 4 = .ok (.getfield 338, 3) := by decide +kernel
theorem dX12_isStation_7 : decode cX12_isStation 7 = .ok (.iconst 1, 1) := by decide +kernel
theorem dX12_isStation_8 : decode cX12_isStation 8 = .ok (.isub, 1) := by decide +kernel
theorem dX12_isStation_9 : decode cX12_isStation 9 = .ok (.i2l, 1) := by decide +kernel
theorem dX12_isStation_10 : decode cX12_isStation 10 = .ok (.invokestatic 155, 3) := by decide +kernel
theorem dX12_isStation_13 : decode cX12_isStation 13 = .ok (.ireturn, 1) := by decide +kernel
theorem dX12_isStrake_0 : decode cX12_isStrake 0 = .ok (.iload_n 1, 1) := by decide +kernel
theorem dX12_isStrake_1 : decode cX12_isStrake 1 = .ok (.i2l, 1) := by decide +kernel
theorem dX12_isStrake_2 : decode cX12_isStrake 2 = .ok (.lconst 0, 1) := by decide +kernel
theorem dX12_isStrake_3 : decode cX12_isStrake 3 = .ok (.aload_n 0, 1) := by decide +kernel
theorem dX12_isStrake_4 : decode cX12_isStrake 4 = .ok (.getfield 341, 3) := by decide +kernel
theorem dX12_isStrake_7 : decode cX12_isStrake 7 = .ok (.iconst 1, 1) := by decide +kernel
theorem dX12_isStrake_8 : decode cX12_isStrake 8 = .ok (.isub, 1) := by decide +kernel
theorem dX12_isStrake_9 : decode cX12_isStrake 9 = .ok (.i2l, 1) := by decide +kernel
theorem dX12_isStrake_10 : decode cX12_isStrake 10 = .ok (.invokestatic 155, 3) := by decide +kernel
theorem dX12_isStrake_13 : decode cX12_isStrake 13 = .ok (.ireturn, 1) := by decide +kernel
theorem dX12_isRivet_0 : decode cX12_isRivet 0 = .ok (.aload_n 0, 1) := by decide +kernel
theorem dX12_isRivet_1 : decode cX12_isRivet 1 = .ok (.iload_n 1, 1) := by decide +kernel
theorem dX12_isRivet_2 : decode cX12_isRivet 2 = .ok (.invokevirtual 344, 3) := by decide +kernel
theorem dX12_isRivet_5 : decode cX12_isRivet 5 = .ok (.ifCond .eq 25, 3) := by decide +kernel
theorem dX12_isRivet_8 : decode cX12_isRivet 8 = .ok (.aload_n 0, 1) := by decide +kernel
theorem dX12_isRivet_9 : decode cX12_isRivet 9 = .ok (.iload_n 2, 1) := by decide +kernel
theorem dX12_isRivet_10 : decode cX12_isRivet 10 = .ok (.invokevirtual 347, 3) := by decide +kernel
theorem dX12_isRivet_13 : decode cX12_isRivet 13 = .ok (.ifCond .eq 17, 3) := by decide +kernel
theorem dX12_isRivet_16 : decode cX12_isRivet 16 = .ok (.iload_n 3, 1) := by decide +kernel
theorem dX12_isRivet_17 : decode cX12_isRivet 17 = .ok (.i2l, 1) := by decide +kernel
theorem dX12_isRivet_18 : decode cX12_isRivet 18 = .ok (.lconst 0, 1) := by decide +kernel
theorem dX12_isRivet_19 : decode cX12_isRivet 19 = .ok (.lconst 1, 1) := by decide +kernel
theorem dX12_isRivet_20 : decode cX12_isRivet 20 = .ok (.invokestatic 155, 3) := by decide +kernel
theorem dX12_isRivet_23 : decode cX12_isRivet 23 = .ok (.ifCond .eq 7, 3) := by decide +kernel
theorem dX12_isRivet_26 : decode cX12_isRivet 26 = .ok (.iconst 1, 1) := by decide +kernel
theorem dX12_isRivet_27 : decode cX12_isRivet 27 = .ok (.goto 4, 3) := by decide +kernel
theorem dX12_isRivet_30 : decode cX12_isRivet 30 = .ok (.iconst 0, 1) := by decide +kernel
theorem dX12_isRivet_31 : decode cX12_isRivet 31 = .ok (.ireturn, 1) := by decide +kernel
theorem dX12_stands_0 : decode cX12_stands 0 = .ok (.aload_n 0, 1) := by decide +kernel
theorem dX12_stands_1 : decode cX12_stands 1 = .ok (.invokevirtual 360, 3) := by decide +kernel
theorem dX12_stands_4 : decode cX12_stands 4 = .ok (.aload_n 0, 1) := by decide +kernel
theorem dX12_stands_5 : decode cX12_stands 5 = .ok (.iload_n 1, 1) := by decide +kernel
theorem dX12_stands_6 : decode cX12_stands 6 = .ok (.putfield 285, 3) := by decide +kernel
theorem dX12_stands_9 : decode cX12_stands 9 = .ok (.aload_n 0, 1) := by decide +kernel
theorem dX12_stands_10 : decode cX12_stands 10 = .ok (.iload_n 2, 1) := by decide +kernel
theorem dX12_stands_11 : decode cX12_stands 11 = .ok (.putfield 288, 3) := by decide +kernel
theorem dX12_stands_14 : decode cX12_stands 14 = .ok (.aload_n 0, 1) := by decide +kernel
theorem dX12_stands_15 : decode cX12_stands 15 = .ok (.iload_n 3, 1) := by decide +kernel
theorem dX12_stands_16 : decode cX12_stands 16 = .ok (.putfield 291, 3) := by decide +kernel
theorem dX12_stands_19 : decode cX12_stands 19 = .ok (.aload_n 0, 1) := by decide +kernel
theorem dX12_stands_20 : decode cX12_stands 20 = .ok (.aload_n 0, 1) := by decide +kernel
theorem dX12_stands_21 : decode cX12_stands 21 = .ok (.getfield 338, 3) := by decide +kernel
theorem dX12_stands_24 : decode cX12_stands 24 = .ok (.putfield 294, 3) := by decide +kernel
theorem dX12_stands_27 : decode cX12_stands 27 = .ok (.aload_n 0, 1) := by decide +kernel
theorem dX12_stands_28 : decode cX12_stands 28 = .ok (.iload_n 1, 1) := by decide +kernel
theorem dX12_stands_29 : decode cX12_stands 29 = .ok (.aload_n 0, 1) := by decide +kernel
theorem dX12_stands_30 : decode cX12_stands 30 = .ok (.getfield 338, 3) := by decide +kernel
theorem dX12_stands_33 : decode cX12_stands 33 = .ok (.iconst 1, 1) := by decide +kernel
theorem dX12_stands_34 : decode cX12_stands 34 = .ok (.isub, 1) := by decide +kernel
theorem dX12_stands_35 : decode cX12_stands 35 = .ok (.iload_n 1, 1) := by decide +kernel
theorem dX12_stands_36 : decode cX12_stands 36 = .ok (.isub, 1) := by decide +kernel
theorem dX12_stands_37 : decode cX12_stands 37 = .ok (.if_icmp .ge 7, 3) := by decide +kernel
theorem dX12_stands_40 : decode cX12_stands 40 = .ok (.iload_n 1, 1) := by decide +kernel
theorem dX12_stands_41 : decode cX12_stands 41 = .ok (.goto 11, 3) := by decide +kernel
theorem dX12_stands_44 : decode cX12_stands 44 = .ok (.aload_n 0, 1) := by decide +kernel
theorem dX12_stands_45 : decode cX12_stands 45 = .ok (.getfield 338, 3) := by decide +kernel
theorem dX12_stands_48 : decode cX12_stands 48 = .ok (.iconst 1, 1) := by decide +kernel
theorem dX12_stands_49 : decode cX12_stands 49 = .ok (.isub, 1) := by decide +kernel
theorem dX12_stands_50 : decode cX12_stands 50 = .ok (.iload_n 1, 1) := by decide +kernel
theorem dX12_stands_51 : decode cX12_stands 51 = .ok (.isub, 1) := by decide +kernel
theorem dX12_stands_52 : decode cX12_stands 52 = .ok (.putfield 297, 3) := by decide +kernel
theorem dX12_stands_55 : decode cX12_stands 55 = .ok (.aload_n 0, 1) := by decide +kernel
theorem dX12_stands_56 : decode cX12_stands 56 = .ok (.aload_n 0, 1) := by decide +kernel
theorem dX12_stands_57 : decode cX12_stands 57 = .ok (.getfield 341, 3) := by decide +kernel
theorem dX12_stands_60 : decode cX12_stands 60 = .ok (.putfield 300, 3) := by decide +kernel
theorem dX12_stands_63 : decode cX12_stands 63 = .ok (.return_, 1) := by decide +kernel
theorem dX12_build_0 : decode cX12_build 0 = .ok (.iload_n 1, 1) := by decide +kernel
theorem dX12_build_1 : decode cX12_build 1 = .ok (.i2l, 1) := by decide +kernel
theorem dX12_build_2 : decode cX12_build 2 = .ok (.ldc2_w 363, 3) := by decide +kernel
theorem dX12_build_5 : decode cX12_build 5 = .ok (.ldc2_w 365, 3) := by decide +kernel
theorem dX12_build_8 : decode cX12_build 8 = .ok (.invokestatic 155, 3) := by decide +kernel
theorem dX12_build_11 : decode cX12_build 11 = .ok (.ifCond .eq 15, 3) := by decide +kernel
theorem dX12_build_14 : decode cX12_build 14 = .ok (.iload_n 2, 1) := by decide +kernel
theorem dX12_build_15 : decode cX12_build 15 = .ok (.i2l, 1) := by decide +kernel
theorem dX12_build_16 : decode cX12_build 16 = .ok (.lconst 1, 1) := by decide +kernel
theorem dX12_build_17 : decode cX12_build 17 = .ok (.ldc2_w 367, 3) := by decide +kernel
theorem dX12_build_20 : decode cX12_build 20 = .ok (.invokestatic 155, 3) := by decide +kernel
theorem dX12_build_23 : decode cX12_build 23 = .ok (.ifCond .ne 5, 3) := by decide +kernel
theorem dX12_build_26 : decode cX12_build 26 = .ok (.iconst (-1), 1) := by decide +kernel
theorem dX12_build_27 : decode cX12_build 27 = .ok (.ireturn, 1) := by decide +kernel
theorem dX12_build_28 : decode cX12_build 28 = .ok (.aload_n 0, 1) := by decide +kernel
theorem dX12_build_29 : decode cX12_build 29 = .ok (.iload_n 1, 1) := by decide +kernel
theorem dX12_build_30 : decode cX12_build 30 = .ok (.putfield 338, 3) := by decide +kernel
theorem dX12_build_33 : decode cX12_build 33 = .ok (.aload_n 0, 1) := by decide +kernel
theorem dX12_build_34 : decode cX12_build 34 = .ok (.iload_n 2, 1) := by decide +kernel
theorem dX12_build_35 : decode cX12_build 35 = .ok (.putfield 341, 3) := by decide +kernel
theorem dX12_build_38 : decode cX12_build 38 = .ok (.aload_n 0, 1) := by decide +kernel
theorem dX12_build_39 : decode cX12_build 39 = .ok (.iconst 0, 1) := by decide +kernel
theorem dX12_build_40 : decode cX12_build 40 = .ok (.putfield 353, 3) := by decide +kernel
theorem dX12_build_43 : decode cX12_build 43 = .ok (.aload_n 0, 1) := by decide +kernel
theorem dX12_build_44 : decode cX12_build 44 = .ok (.iconst 0, 1) := by decide +kernel
theorem dX12_build_45 : decode cX12_build 45 = .ok (.putfield 369, 3) := by decide +kernel
theorem dX12_build_48 : decode cX12_build 48 = .ok (.aload_n 0, 1) := by decide +kernel
theorem dX12_build_49 : decode cX12_build 49 = .ok (.iconst 0, 1) := by decide +kernel
theorem dX12_build_50 : decode cX12_build 50 = .ok (.putfield 372, 3) := by decide +kernel
theorem dX12_build_53 : decode cX12_build 53 = .ok (.iconst 0, 1) := by decide +kernel
theorem dX12_build_54 : decode cX12_build 54 = .ok (.istore_n 3, 1) := by decide +kernel
theorem dX12_build_55 : decode cX12_build 55 = .ok (.iload_n 3, 1) := by decide +kernel
theorem dX12_build_56 : decode cX12_build 56 = .ok (.bipush 48, 2) := by decide +kernel
theorem dX12_build_58 : decode cX12_build 58 = .ok (.if_icmp .ge 16, 3) := by decide +kernel
theorem dX12_build_61 : decode cX12_build 61 = .ok (.aload_n 0, 1) := by decide +kernel
theorem dX12_build_62 : decode cX12_build 62 = .ok (.getfield 135, 3) := by decide +kernel
theorem dX12_build_65 : decode cX12_build 65 = .ok (.iload_n 3, 1) := by decide +kernel
theorem dX12_build_66 : decode cX12_build 66 = .ok (.iconst (-1), 1) := by decide +kernel
theorem dX12_build_67 : decode cX12_build 67 = .ok (.iastore, 1) := by decide +kernel
theorem dX12_build_68 : decode cX12_build 68 = .ok (.iinc 3 1, 3) := by decide +kernel
theorem dX12_build_71 : decode cX12_build 71 = .ok (.goto (-16), 3) := by decide +kernel
theorem dX12_build_74 : decode cX12_build 74 = .ok (.iconst 0, 1) := by decide +kernel
theorem dX12_build_75 : decode cX12_build 75 = .ok (.istore_n 3, 1) := by decide +kernel
theorem dX12_build_76 : decode cX12_build 76 = .ok (.iload_n 3, 1) := by decide +kernel
theorem dX12_build_77 : decode cX12_build 77 = .ok (.iload_n 1, 1) := by decide +kernel
theorem dX12_build_78 : decode cX12_build 78 = .ok (.if_icmp .ge 114, 3) := by decide +kernel
theorem dX12_build_81 : decode cX12_build 81 = .ok (.iconst 0, 1) := by decide +kernel
theorem dX12_build_82 : decode cX12_build 82 = .ok (.istore 4, 2) := by decide +kernel
theorem dX12_build_84 : decode cX12_build 84 = .ok (.iload 4, 2) := by decide +kernel
theorem dX12_build_86 : decode cX12_build 86 = .ok (.iload_n 2, 1) := by decide +kernel
theorem dX12_build_87 : decode cX12_build 87 = .ok (.if_icmp .ge 99, 3) := by decide +kernel
theorem dX12_build_90 : decode cX12_build 90 = .ok (.iconst 0, 1) := by decide +kernel
theorem dX12_build_91 : decode cX12_build 91 = .ok (.istore 5, 2) := by decide +kernel
theorem dX12_build_93 : decode cX12_build 93 = .ok (.iload 5, 2) := by decide +kernel
theorem dX12_build_95 : decode cX12_build 95 = .ok (.iconst 2, 1) := by decide +kernel
theorem dX12_build_96 : decode cX12_build 96 = .ok (.if_icmp .ge 84, 3) := by decide +kernel
theorem dX12_build_99 : decode cX12_build 99 = .ok (.iload_n 3, 1) := by decide +kernel
theorem dX12_build_100 : decode cX12_build 100 = .ok (.iload 4, 2) := by decide +kernel
theorem dX12_build_102 : decode cX12_build 102 = .ok (.iload 5, 2) := by decide +kernel
theorem dX12_build_104 : decode cX12_build 104 = .ok (.invokestatic 350, 3) := by decide +kernel
theorem dX12_build_107 : decode cX12_build 107 = .ok (.istore 6, 2) := by decide +kernel
theorem dX12_build_109 : decode cX12_build 109 = .ok (.aload_n 0, 1) := by decide +kernel
theorem dX12_build_110 : decode cX12_build 110 = .ok (.iload_n 3, 1) := by decide +kernel
theorem dX12_build_111 : decode cX12_build 111 = .ok (.iload 4, 2) := by decide +kernel
theorem dX12_build_113 : decode cX12_build 113 = .ok (.iload 5, 2) := by decide +kernel
theorem dX12_build_115 : decode cX12_build 115 = .ok (.invokevirtual 375, 3) := by decide +kernel
theorem dX12_build_118 : decode cX12_build 118 = .ok (.aload_n 0, 1) := by decide +kernel
theorem dX12_build_119 : decode cX12_build 119 = .ok (.getfield 70, 3) := by decide +kernel
theorem dX12_build_122 : decode cX12_build 122 = .ok (.iload 6, 2) := by decide +kernel
theorem dX12_build_124 : decode cX12_build 124 = .ok (.aload_n 0, 1) := by decide +kernel
theorem dX12_build_125 : decode cX12_build 125 = .ok (.iconst 0, 1) := by decide +kernel
theorem dX12_build_126 : decode cX12_build 126 = .ok (.bipush 121, 2) := by decide +kernel
theorem dX12_build_128 : decode cX12_build 128 = .ok (.sipush (-3000), 3) := by decide +kernel
theorem dX12_build_131 : decode cX12_build 131 = .ok (.sipush 3000, 3) := by decide +kernel
theorem dX12_build_134 : decode cX12_build 134 = .ok (.invokevirtual 379, 3) := by decide +kernel
theorem dX12_build_137 : decode cX12_build 137 = .ok (.iastore, 1) := by decide +kernel
theorem dX12_build_138 : decode cX12_build 138 = .ok (.aload_n 0, 1) := by decide +kernel
theorem dX12_build_139 : decode cX12_build 139 = .ok (.getfield 73, 3) := by decide +kernel
theorem dX12_build_142 : decode cX12_build 142 = .ok (.iload 6, 2) := by decide +kernel
theorem dX12_build_144 : decode cX12_build 144 = .ok (.aload_n 0, 1) := by decide +kernel
theorem dX12_build_145 : decode cX12_build 145 = .ok (.iconst 0, 1) := by decide +kernel
theorem dX12_build_146 : decode cX12_build 146 = .ok (.bipush 122, 2) := by decide +kernel
theorem dX12_build_148 : decode cX12_build 148 = .ok (.sipush (-3000), 3) := by decide +kernel
theorem dX12_build_151 : decode cX12_build 151 = .ok (.sipush 3000, 3) := by decide +kernel
theorem dX12_build_154 : decode cX12_build 154 = .ok (.invokevirtual 379, 3) := by decide +kernel
theorem dX12_build_157 : decode cX12_build 157 = .ok (.iastore, 1) := by decide +kernel
theorem dX12_build_158 : decode cX12_build 158 = .ok (.aload_n 0, 1) := by decide +kernel
theorem dX12_build_159 : decode cX12_build 159 = .ok (.getfield 76, 3) := by decide +kernel
theorem dX12_build_162 : decode cX12_build 162 = .ok (.iload 6, 2) := by decide +kernel
theorem dX12_build_164 : decode cX12_build 164 = .ok (.iconst 0, 1) := by decide +kernel
theorem dX12_build_165 : decode cX12_build 165 = .ok (.bastore, 1) := by decide +kernel
theorem dX12_build_166 : decode cX12_build 166 = .ok (.aload_n 0, 1) := by decide +kernel
theorem dX12_build_167 : decode cX12_build 167 = .ok (.getfield 79, 3) := by decide +kernel
theorem dX12_build_170 : decode cX12_build 170 = .ok (.iload 6, 2) := by decide +kernel
theorem dX12_build_172 : decode cX12_build 172 = .ok (.iconst 0, 1) := by decide +kernel
theorem dX12_build_173 : decode cX12_build 173 = .ok (.iastore, 1) := by decide +kernel
theorem dX12_build_174 : decode cX12_build 174 = .ok (.iinc 5 1, 3) := by decide +kernel
theorem dX12_build_177 : decode cX12_build 177 = .ok (.goto (-84), 3) := by decide +kernel
theorem dX12_build_180 : decode cX12_build 180 = .ok (.iinc 4 1, 3) := by decide +kernel
theorem dX12_build_183 : decode cX12_build 183 = .ok (.goto (-99), 3) := by decide +kernel
theorem dX12_build_186 : decode cX12_build 186 = .ok (.iinc 3 1, 3) := by decide +kernel
theorem dX12_build_189 : decode cX12_build 189 = .ok (.goto (-113), 3) := by decide +kernel
theorem dX12_build_192 : decode cX12_build 192 = .ok (.aload_n 0, 1) := by decide +kernel
theorem dX12_build_193 : decode cX12_build 193 = .ok (.invokevirtual 383, 3) := by decide +kernel
theorem dX12_build_196 : decode cX12_build 196 = .ok (.iconst 2, 1) := by decide +kernel
theorem dX12_build_197 : decode cX12_build 197 = .ok (.iload_n 1, 1) := by decide +kernel
theorem dX12_build_198 : decode cX12_build 198 = .ok (.imul, 1) := by decide +kernel
theorem dX12_build_199 : decode cX12_build 199 = .ok (.iload_n 2, 1) := by decide +kernel
theorem dX12_build_200 : decode cX12_build 200 = .ok (.imul, 1) := by decide +kernel
theorem dX12_build_201 : decode cX12_build 201 = .ok (.ireturn, 1) := by decide +kernel
theorem dX12_mound_0 : decode cX12_mound 0 = .ok (.iload_n 1, 1) := by decide +kernel
theorem dX12_mound_1 : decode cX12_mound 1 = .ok (.i2l, 1) := by decide +kernel
theorem dX12_mound_2 : decode cX12_mound 2 = .ok (.lconst 0, 1) := by decide +kernel
theorem dX12_mound_3 : decode cX12_mound 3 = .ok (.ldc2_w 386, 3) := by decide +kernel
theorem dX12_mound_6 : decode cX12_mound 6 = .ok (.invokestatic 155, 3) := by decide +kernel
theorem dX12_mound_9 : decode cX12_mound 9 = .ok (.ifCond .eq 15, 3) := by decide +kernel
theorem dX12_mound_12 : decode cX12_mound 12 = .ok (.iload_n 2, 1) := by decide +kernel
theorem dX12_mound_13 : decode cX12_mound 13 = .ok (.i2l, 1) := by decide +kernel
theorem dX12_mound_14 : decode cX12_mound 14 = .ok (.lconst 0, 1) := by decide +kernel
theorem dX12_mound_15 : decode cX12_mound 15 = .ok (.ldc2_w 153, 3) := by decide +kernel
theorem dX12_mound_18 : decode cX12_mound 18 = .ok (.invokestatic 155, 3) := by decide +kernel
theorem dX12_mound_21 : decode cX12_mound 21 = .ok (.ifCond .ne 5, 3) := by decide +kernel
theorem dX12_mound_24 : decode cX12_mound 24 = .ok (.iconst 0, 1) := by decide +kernel
theorem dX12_mound_25 : decode cX12_mound 25 = .ok (.ireturn, 1) := by decide +kernel
theorem dX12_mound_26 : decode cX12_mound 26 = .ok (.aload_n 0, 1) := by decide +kernel
theorem dX12_mound_27 : decode cX12_mound 27 = .ok (.getfield 82, 3) := by decide +kernel
theorem dX12_mound_30 : decode cX12_mound 30 = .ok (.iload_n 1, 1) := by decide +kernel
theorem dX12_mound_31 : decode cX12_mound 31 = .ok (.iload_n 2, 1) := by decide +kernel
theorem dX12_mound_32 : decode cX12_mound 32 = .ok (.iastore, 1) := by decide +kernel
theorem dX12_mound_33 : decode cX12_mound 33 = .ok (.iconst 1, 1) := by decide +kernel
theorem dX12_mound_34 : decode cX12_mound 34 = .ok (.ireturn, 1) := by decide +kernel
theorem dX12_left_0 : decode cX12_left 0 = .ok (.iconst 0, 1) := by decide +kernel
theorem dX12_left_1 : decode cX12_left 1 = .ok (.istore_n 1, 1) := by decide +kernel
theorem dX12_left_2 : decode cX12_left 2 = .ok (.iconst 0, 1) := by decide +kernel
theorem dX12_left_3 : decode cX12_left 3 = .ok (.istore_n 2, 1) := by decide +kernel
theorem dX12_left_4 : decode cX12_left 4 = .ok (.iload_n 2, 1) := by decide +kernel
theorem dX12_left_5 : decode cX12_left 5 = .ok (.aload_n 0, 1) := by decide +kernel
theorem dX12_left_6 : decode cX12_left 6 = .ok (.getfield 338, 3) := by decide +kernel
theorem dX12_left_9 : decode cX12_left 9 = .ok (.if_icmp .ge 67, 3) := by decide +kernel
theorem dX12_left_12 : decode cX12_left 12 = .ok (.iconst 0, 1) := by decide +kernel
theorem dX12_left_13 : decode cX12_left 13 = .ok (.istore_n 3, 1) := by decide +kernel
theorem dX12_left_14 : decode cX12_left 14 = .ok (.iload_n 3, 1) := by decide +kernel
theorem dX12_left_15 : decode cX12_left 15 = .ok (.aload_n 0, 1) := by decide +kernel
theorem dX12_left_16 : decode cX12_left 16 = .ok (.getfield 341, 3) := by decide +kernel
theorem dX12_left_19 : decode cX12_left 19 = .ok (.if_icmp .ge 51, 3) := by decide +kernel
theorem dX12_left_22 : decode cX12_left 22 = .ok (.iload_n 1, 1) := by decide +kernel
theorem dX12_left_23 : decode cX12_left 23 = .ok (.aload_n 0, 1) := by decide +kernel
theorem dX12_left_24 : decode cX12_left 24 = .ok (.getfield 76, 3) := by decide +kernel
theorem dX12_left_27 : decode cX12_left 27 = .ok (.iload_n 2, 1) := by decide +kernel
theorem dX12_left_28 : decode cX12_left 28 = .ok (.iload_n 3, 1) := by decide +kernel
theorem dX12_left_29 : decode cX12_left 29 = .ok (.iconst 0, 1) := by decide +kernel
theorem dX12_left_30 : decode cX12_left 30 = .ok (.invokestatic 350, 3) := by decide +kernel
theorem dX12_left_33 : decode cX12_left 33 = .ok (.baload, 1) := by decide +kernel
theorem dX12_left_34 : decode cX12_left 34 = .ok (.ifCond .eq 7, 3) := by decide +kernel
theorem dX12_left_37 : decode cX12_left 37 = .ok (.iconst 0, 1) := by decide +kernel
theorem dX12_left_38 : decode cX12_left 38 = .ok (.goto 4, 3) := by decide +kernel
theorem dX12_left_41 : decode cX12_left 41 = .ok (.iconst 1, 1) := by decide +kernel
theorem dX12_left_42 : decode cX12_left 42 = .ok (.aload_n 0, 1) := by decide +kernel
theorem dX12_left_43 : decode cX12_left 43 = .ok (.getfield 76, 3) := by decide +kernel
theorem dX12_left_46 : decode cX12_left 46 = .ok (.iload_n 2, 1) := by decide +kernel
theorem dX12_left_47 : decode cX12_left 47 = .ok (.iload_n 3, 1) := by decide +kernel
theorem dX12_left_48 : decode cX12_left 48 = .ok (.iconst 1, 1) := by decide +kernel
theorem dX12_left_49 : decode cX12_left 49 = .ok (.invokestatic 350, 3) := by decide +kernel
theorem dX12_left_52 : decode cX12_left 52 = .ok (.baload, 1) := by decide +kernel
theorem dX12_left_53 : decode cX12_left 53 = .ok (.ifCond .eq 7, 3) := by decide +kernel
theorem dX12_left_56 : decode cX12_left 56 = .ok (.iconst 0, 1) := by decide +kernel
theorem dX12_left_57 : decode cX12_left 57 = .ok (.goto 4, 3) := by decide +kernel
theorem dX12_left_60 : decode cX12_left 60 = .ok (.iconst 1, 1) := by decide +kernel
theorem dX12_left_61 : decode cX12_left 61 = .ok (.iadd, 1) := by decide +kernel
theorem dX12_left_62 : decode cX12_left 62 = .ok (.iadd, 1) := by decide +kernel
theorem dX12_left_63 : decode cX12_left 63 = .ok (.istore_n 1, 1) := by decide +kernel
theorem dX12_left_64 : decode cX12_left 64 = .ok (.iinc 3 1, 3) := by decide +kernel
theorem dX12_left_67 : decode cX12_left 67 = .ok (.goto (-53), 3) := by decide +kernel
theorem dX12_left_70 : decode cX12_left 70 = .ok (.iinc 2 1, 3) := by decide +kernel
theorem dX12_left_73 : decode cX12_left 73 = .ok (.goto (-69), 3) := by decide +kernel
theorem dX12_left_76 : decode cX12_left 76 = .ok (.iload_n 1, 1) := by decide +kernel
theorem dX12_left_77 : decode cX12_left 77 = .ok (.ireturn, 1) := by decide +kernel
theorem dX12_bury_0 : decode cX12_bury 0 = .ok (.aload_n 0, 1) := by decide +kernel
theorem dX12_bury_1 : decode cX12_bury 1 = .ok (.getfield 338, 3) := by decide +kernel
theorem dX12_bury_4 : decode cX12_bury 4 = .ok (.ifCond .eq 15, 3) := by decide +kernel
theorem dX12_bury_7 : decode cX12_bury 7 = .ok (.iload_n 1, 1) := by decide +kernel
theorem dX12_bury_8 : decode cX12_bury 8 = .ok (.i2l, 1) := by decide +kernel
theorem dX12_bury_9 : decode cX12_bury 9 = .ok (.lconst 1, 1) := by decide +kernel
theorem dX12_bury_10 : decode cX12_bury 10 = .ok (.ldc2_w 394, 3) := by decide +kernel
theorem dX12_bury_13 : decode cX12_bury 13 = .ok (.invokestatic 155, 3) := by decide +kernel
theorem dX12_bury_16 : decode cX12_bury 16 = .ok (.ifCond .ne 5, 3) := by decide +kernel
theorem dX12_bury_19 : decode cX12_bury 19 = .ok (.iconst (-1), 1) := by decide +kernel
theorem dX12_bury_20 : decode cX12_bury 20 = .ok (.ireturn, 1) := by decide +kernel
theorem dX12_bury_21 : decode cX12_bury 21 = .ok (.iconst 0, 1) := by decide +kernel
theorem dX12_bury_22 : decode cX12_bury 22 = .ok (.istore_n 2, 1) := by decide +kernel
theorem dX12_bury_23 : decode cX12_bury 23 = .ok (.iload_n 2, 1) := by decide +kernel
theorem dX12_bury_24 : decode cX12_bury 24 = .ok (.iload_n 1, 1) := by decide +kernel
theorem dX12_bury_25 : decode cX12_bury 25 = .ok (.if_icmp .ge 83, 3) := by decide +kernel
theorem dX12_bury_28 : decode cX12_bury 28 = .ok (.iconst 0, 1) := by decide +kernel
theorem dX12_bury_29 : decode cX12_bury 29 = .ok (.istore_n 3, 1) := by decide +kernel
theorem dX12_bury_30 : decode cX12_bury 30 = .ok (.iload_n 3, 1) := by decide +kernel
theorem dX12_bury_31 : decode cX12_bury 31 = .ok (.aload_n 0, 1) := by decide +kernel
theorem dX12_bury_32 : decode cX12_bury 32 = .ok (.getfield 338, 3) := by decide +kernel
theorem dX12_bury_35 : decode cX12_bury 35 = .ok (.if_icmp .ge 67, 3) := by decide +kernel
theorem dX12_bury_38 : decode cX12_bury 38 = .ok (.iconst 0, 1) := by decide +kernel
theorem dX12_bury_39 : decode cX12_bury 39 = .ok (.istore 4, 2) := by decide +kernel
theorem dX12_bury_41 : decode cX12_bury 41 = .ok (.iload 4, 2) := by decide +kernel
theorem dX12_bury_43 : decode cX12_bury 43 = .ok (.aload_n 0, 1) := by decide +kernel
theorem dX12_bury_44 : decode cX12_bury 44 = .ok (.getfield 341, 3) := by decide +kernel
theorem dX12_bury_47 : decode cX12_bury 47 = .ok (.if_icmp .ge 49, 3) := by decide +kernel
theorem dX12_bury_50 : decode cX12_bury 50 = .ok (.iconst 0, 1) := by decide +kernel
theorem dX12_bury_51 : decode cX12_bury 51 = .ok (.istore 5, 2) := by decide +kernel
theorem dX12_bury_53 : decode cX12_bury 53 = .ok (.iload 5, 2) := by decide +kernel
theorem dX12_bury_55 : decode cX12_bury 55 = .ok (.iconst 2, 1) := by decide +kernel
theorem dX12_bury_56 : decode cX12_bury 56 = .ok (.if_icmp .ge 34, 3) := by decide +kernel
theorem dX12_bury_59 : decode cX12_bury 59 = .ok (.aload_n 0, 1) := by decide +kernel
theorem dX12_bury_60 : decode cX12_bury 60 = .ok (.getfield 76, 3) := by decide +kernel
theorem dX12_bury_63 : decode cX12_bury 63 = .ok (.iload_n 3, 1) := by decide +kernel
theorem dX12_bury_64 : decode cX12_bury 64 = .ok (.iload 4, 2) := by decide +kernel
theorem dX12_bury_66 : decode cX12_bury 66 = .ok (.iload 5, 2) := by decide +kernel
theorem dX12_bury_68 : decode cX12_bury 68 = .ok (.invokestatic 350, 3) := by decide +kernel
theorem dX12_bury_71 : decode cX12_bury 71 = .ok (.baload, 1) := by decide +kernel
theorem dX12_bury_72 : decode cX12_bury 72 = .ok (.ifCond .ne 12, 3) := by decide +kernel
theorem dX12_bury_75 : decode cX12_bury 75 = .ok (.aload_n 0, 1) := by decide +kernel
theorem dX12_bury_76 : decode cX12_bury 76 = .ok (.iload_n 3, 1) := by decide +kernel
theorem dX12_bury_77 : decode cX12_bury 77 = .ok (.iload 4, 2) := by decide +kernel
theorem dX12_bury_79 : decode cX12_bury 79 = .ok (.iload 5, 2) := by decide +kernel
theorem dX12_bury_81 : decode cX12_bury 81 = .ok (.invokevirtual 396, 3) := by decide +kernel
theorem dX12_bury_84 : decode cX12_bury 84 = .ok (.iinc 5 1, 3) := by decide +kernel
theorem dX12_bury_87 : decode cX12_bury 87 = .ok (.goto (-34), 3) := by decide +kernel
theorem dX12_bury_90 : decode cX12_bury 90 = .ok (.iinc 4 1, 3) := by decide +kernel
theorem dX12_bury_93 : decode cX12_bury 93 = .ok (.goto (-52), 3) := by decide +kernel
theorem dX12_bury_96 : decode cX12_bury 96 = .ok (.iinc 3 1, 3) := by decide +kernel
theorem dX12_bury_99 : decode cX12_bury 99 = .ok (.goto (-69), 3) := by decide +kernel
theorem dX12_bury_102 : decode cX12_bury 102 = .ok (.iinc 2 1, 3) := by decide +kernel
theorem dX12_bury_105 : decode cX12_bury 105 = .ok (.goto (-82), 3) := by decide +kernel
theorem dX12_bury_108 : decode cX12_bury 108 = .ok (.aload_n 0, 1) := by decide +kernel
theorem dX12_bury_109 : decode cX12_bury 109 = .ok (.invokevirtual 383, 3) := by decide +kernel
theorem dX12_bury_112 : decode cX12_bury 112 = .ok (.aload_n 0, 1) := by decide +kernel
theorem dX12_bury_113 : decode cX12_bury 113 = .ok (.invokevirtual 399, 3) := by decide +kernel
theorem dX12_bury_116 : decode cX12_bury 116 = .ok (.ireturn, 1) := by decide +kernel
theorem dX12_lies_0 : decode cX12_lies 0 = .ok (.aload_n 0, 1) := by decide +kernel
theorem dX12_lies_1 : decode cX12_lies 1 = .ok (.iload_n 1, 1) := by decide +kernel
theorem dX12_lies_2 : decode cX12_lies 2 = .ok (.iload_n 2, 1) := by decide +kernel
theorem dX12_lies_3 : decode cX12_lies 3 = .ok (.iload_n 3, 1) := by decide +kernel
theorem dX12_lies_4 : decode cX12_lies 4 = .ok (.invokevirtual 402, 3) := by decide +kernel
theorem dX12_lies_7 : decode cX12_lies 7 = .ok (.ifCond .eq 33, 3) := by decide +kernel
theorem dX12_lies_10 : decode cX12_lies 10 = .ok (.iload 4, 2) := by decide +kernel
theorem dX12_lies_12 : decode cX12_lies 12 = .ok (.i2l, 1) := by decide +kernel
theorem dX12_lies_13 : decode cX12_lies 13 = .ok (.ldc2_w 406, 3) := by decide +kernel
theorem dX12_lies_16 : decode cX12_lies 16 = .ok (.ldc2_w 408, 3) := by decide +kernel
theorem dX12_lies_19 : decode cX12_lies 19 = .ok (.invokestatic 155, 3) := by decide +kernel
theorem dX12_lies_22 : decode cX12_lies 22 = .ok (.ifCond .eq 18, 3) := by decide +kernel
theorem dX12_lies_25 : decode cX12_lies 25 = .ok (.iload 5, 2) := by decide +kernel
theorem dX12_lies_27 : decode cX12_lies 27 = .ok (.i2l, 1) := by decide +kernel
theorem dX12_lies_28 : decode cX12_lies 28 = .ok (.ldc2_w 406, 3) := by decide +kernel
theorem dX12_lies_31 : decode cX12_lies 31 = .ok (.ldc2_w 408, 3) := by decide +kernel
theorem dX12_lies_34 : decode cX12_lies 34 = .ok (.invokestatic 155, 3) := by decide +kernel
theorem dX12_lies_37 : decode cX12_lies 37 = .ok (.ifCond .ne 5, 3) := by decide +kernel
theorem dX12_lies_40 : decode cX12_lies 40 = .ok (.iconst 0, 1) := by decide +kernel
theorem dX12_lies_41 : decode cX12_lies 41 = .ok (.ireturn, 1) := by decide +kernel
theorem dX12_lies_42 : decode cX12_lies 42 = .ok (.aload_n 0, 1) := by decide +kernel
theorem dX12_lies_43 : decode cX12_lies 43 = .ok (.getfield 70, 3) := by decide +kernel
theorem dX12_lies_46 : decode cX12_lies 46 = .ok (.iload_n 1, 1) := by decide +kernel
theorem dX12_lies_47 : decode cX12_lies 47 = .ok (.iload_n 2, 1) := by decide +kernel
theorem dX12_lies_48 : decode cX12_lies 48 = .ok (.iload_n 3, 1) := by decide +kernel
theorem dX12_lies_49 : decode cX12_lies 49 = .ok (.invokestatic 350, 3) := by decide +kernel
theorem dX12_lies_52 : decode cX12_lies 52 = .ok (.iload 4, 2) := by decide +kernel
theorem dX12_lies_54 : decode cX12_lies 54 = .ok (.iastore, 1) := by decide +kernel
theorem dX12_lies_55 : decode cX12_lies 55 = .ok (.aload_n 0, 1) := by decide +kernel
theorem dX12_lies_56 : decode cX12_lies 56 = .ok (.getfield 73, 3) := by decide +kernel
theorem dX12_lies_59 : decode cX12_lies 59 = .ok (.iload_n 1, 1) := by decide +kernel
theorem dX12_lies_60 : decode cX12_lies 60 = .ok (.iload_n 2, 1) := by decide +kernel
theorem dX12_lies_61 : decode cX12_lies 61 = .ok (.iload_n 3, 1) := by decide +kernel
theorem dX12_lies_62 : decode cX12_lies 62 = .ok (.invokestatic 350, 3) := by decide +kernel
theorem dX12_lies_65 : decode cX12_lies 65 = .ok (.iload 5, 2) := by decide +kernel
theorem dX12_lies_67 : decode cX12_lies 67 = .ok (.iastore, 1) := by decide +kernel
theorem dX12_lies_68 : decode cX12_lies 68 = .ok (.aload_n 0, 1) := by decide +kernel
theorem dX12_lies_69 : decode cX12_lies 69 = .ok (.getfield 76, 3) := by decide +kernel
theorem dX12_lies_72 : decode cX12_lies 72 = .ok (.iload_n 1, 1) := by decide +kernel
theorem dX12_lies_73 : decode cX12_lies 73 = .ok (.iload_n 2, 1) := by decide +kernel
theorem dX12_lies_74 : decode cX12_lies 74 = .ok (.iload_n 3, 1) := by decide +kernel
theorem dX12_lies_75 : decode cX12_lies 75 = .ok (.invokestatic 350, 3) := by decide +kernel
theorem dX12_lies_78 : decode cX12_lies 78 = .ok (.iconst 0, 1) := by decide +kernel
theorem dX12_lies_79 : decode cX12_lies 79 = .ok (.bastore, 1) := by decide +kernel
theorem dX12_lies_80 : decode cX12_lies 80 = .ok (.aload_n 0, 1) := by decide +kernel
theorem dX12_lies_81 : decode cX12_lies 81 = .ok (.invokevirtual 383, 3) := by decide +kernel
theorem dX12_lies_84 : decode cX12_lies 84 = .ok (.iconst 1, 1) := by decide +kernel
theorem dX12_lies_85 : decode cX12_lies 85 = .ok (.ireturn, 1) := by decide +kernel
theorem dX12_gone_0 : decode cX12_gone 0 = .ok (.aload_n 0, 1) := by decide +kernel
theorem dX12_gone_1 : decode cX12_gone 1 = .ok (.iload_n 1, 1) := by decide +kernel
theorem dX12_gone_2 : decode cX12_gone 2 = .ok (.iload_n 2, 1) := by decide +kernel
theorem dX12_gone_3 : decode cX12_gone 3 = .ok (.iload_n 3, 1) := by decide +kernel
theorem dX12_gone_4 : decode cX12_gone 4 = .ok (.invokevirtual 402, 3) := by decide +kernel
theorem dX12_gone_7 : decode cX12_gone 7 = .ok (.ifCond .eq 17, 3) := by decide +kernel
theorem dX12_gone_10 : decode cX12_gone 10 = .ok (.aload_n 0, 1) := by decide +kernel
theorem dX12_gone_11 : decode cX12_gone 11 = .ok (.getfield 76, 3) := by decide +kernel
theorem dX12_gone_14 : decode cX12_gone 14 = .ok (.iload_n 1, 1) := by decide +kernel
theorem dX12_gone_15 : decode cX12_gone 15 = .ok (.iload_n 2, 1) := by decide +kernel
theorem dX12_gone_16 : decode cX12_gone 16 = .ok (.iload_n 3, 1) := by decide +kernel
theorem dX12_gone_17 : decode cX12_gone 17 = .ok (.invokestatic 350, 3) := by decide +kernel
theorem dX12_gone_20 : decode cX12_gone 20 = .ok (.baload, 1) := by decide +kernel
theorem dX12_gone_21 : decode cX12_gone 21 = .ok (.ifCond .eq 5, 3) := by decide +kernel
theorem dX12_gone_24 : decode cX12_gone 24 = .ok (.iconst 0, 1) := by decide +kernel
theorem dX12_gone_25 : decode cX12_gone 25 = .ok (.ireturn, 1) := by decide +kernel
theorem dX12_gone_26 : decode cX12_gone 26 = .ok (.aload_n 0, 1) := by decide +kernel
theorem dX12_gone_27 : decode cX12_gone 27 = .ok (.getfield 76, 3) := by decide +kernel
theorem dX12_gone_30 : decode cX12_gone 30 = .ok (.iload_n 1, 1) := by decide +kernel
theorem dX12_gone_31 : decode cX12_gone 31 = .ok (.iload_n 2, 1) := by decide +kernel
theorem dX12_gone_32 : decode cX12_gone 32 = .ok (.iload_n 3, 1) := by decide +kernel
theorem dX12_gone_33 : decode cX12_gone 33 = .ok (.invokestatic 350, 3) := by decide +kernel
theorem dX12_gone_36 : decode cX12_gone 36 = .ok (.iconst 1, 1) := by decide +kernel
theorem dX12_gone_37 : decode cX12_gone 37 = .ok (.bastore, 1) := by decide +kernel
theorem dX12_gone_38 : decode cX12_gone 38 = .ok (.aload_n 0, 1) := by decide +kernel
theorem dX12_gone_39 : decode cX12_gone 39 = .ok (.invokevirtual 383, 3) := by decide +kernel
theorem dX12_gone_42 : decode cX12_gone 42 = .ok (.iconst 1, 1) := by decide +kernel
theorem dX12_gone_43 : decode cX12_gone 43 = .ok (.ireturn, 1) := by decide +kernel
theorem dX12_rivet_0 : decode cX12_rivet 0 = .ok (.aload_n 0, 1) := by decide +kernel
theorem dX12_rivet_1 : decode cX12_rivet 1 = .ok (.iload_n 1, 1) := by decide +kernel
theorem dX12_rivet_2 : decode cX12_rivet 2 = .ok (.iload_n 2, 1) := by decide +kernel
theorem dX12_rivet_3 : decode cX12_rivet 3 = .ok (.iload_n 3, 1) := by decide +kernel
theorem dX12_rivet_4 : decode cX12_rivet 4 = .ok (.invokevirtual 402, 3) := by decide +kernel
theorem dX12_rivet_7 : decode cX12_rivet 7 = .ok (.ifCond .ne 7, 3) := by decide +kernel
theorem dX12_rivet_10 : decode cX12_rivet 10 = .ok (.sipush (-10000), 3) := by decide +kernel
theorem dX12_rivet_13 : decode cX12_rivet 13 = .ok (.ireturn, 1) := by decide +kernel
theorem dX12_rivet_14 : decode cX12_rivet 14 = .ok (.iload_n 1, 1) := by decide +kernel
theorem dX12_rivet_15 : decode cX12_rivet 15 = .ok (.iload_n 2, 1) := by decide +kernel
theorem dX12_rivet_16 : decode cX12_rivet 16 = .ok (.iload_n 3, 1) := by decide +kernel
theorem dX12_rivet_17 : decode cX12_rivet 17 = .ok (.invokestatic 350, 3) := by decide +kernel
theorem dX12_rivet_20 : decode cX12_rivet 20 = .ok (.istore 5, 2) := by decide +kernel
theorem dX12_rivet_22 : decode cX12_rivet 22 = .ok (.iload 4, 2) := by decide +kernel
theorem dX12_rivet_24 : decode cX12_rivet 24 = .ok (.tableswitch 92 0 4 #[36, 44, 52, 68, 76], 36) := by decide +kernel
theorem dX12_rivet_60 : decode cX12_rivet 60 = .ok (.aload_n 0, 1) := by decide +kernel
theorem dX12_rivet_61 : decode cX12_rivet 61 = .ok (.getfield 70, 3) := by decide +kernel
theorem dX12_rivet_64 : decode cX12_rivet 64 = .ok (.iload 5, 2) := by decide +kernel
theorem dX12_rivet_66 : decode cX12_rivet 66 = .ok (.iaload, 1) := by decide +kernel
theorem dX12_rivet_67 : decode cX12_rivet 67 = .ok (.ireturn, 1) := by decide +kernel
theorem dX12_rivet_68 : decode cX12_rivet 68 = .ok (.aload_n 0, 1) := by decide +kernel
theorem dX12_rivet_69 : decode cX12_rivet 69 = .ok (.getfield 73, 3) := by decide +kernel
theorem dX12_rivet_72 : decode cX12_rivet 72 = .ok (.iload 5, 2) := by decide +kernel
theorem dX12_rivet_74 : decode cX12_rivet 74 = .ok (.iaload, 1) := by decide +kernel
theorem dX12_rivet_75 : decode cX12_rivet 75 = .ok (.ireturn, 1) := by decide +kernel
theorem dX12_rivet_76 : decode cX12_rivet 76 = .ok (.aload_n 0, 1) := by decide +kernel
theorem dX12_rivet_77 : decode cX12_rivet 77 = .ok (.getfield 76, 3) := by decide +kernel
theorem dX12_rivet_80 : decode cX12_rivet 80 = .ok (.iload 5, 2) := by decide +kernel
theorem dX12_rivet_82 : decode cX12_rivet 82 = .ok (.baload, 1) := by decide +kernel
theorem dX12_rivet_83 : decode cX12_rivet 83 = .ok (.ifCond .eq 7, 3) := by decide +kernel
theorem dX12_rivet_86 : decode cX12_rivet 86 = .ok (.iconst 1, 1) := by decide +kernel
theorem dX12_rivet_87 : decode cX12_rivet 87 = .ok (.goto 4, 3) := by decide +kernel
theorem dX12_rivet_90 : decode cX12_rivet 90 = .ok (.iconst 0, 1) := by decide +kernel
theorem dX12_rivet_91 : decode cX12_rivet 91 = .ok (.ireturn, 1) := by decide +kernel
theorem dX12_rivet_92 : decode cX12_rivet 92 = .ok (.aload_n 0, 1) := by decide +kernel
theorem dX12_rivet_93 : decode cX12_rivet 93 = .ok (.getfield 79, 3) := by decide +kernel
theorem dX12_rivet_96 : decode cX12_rivet 96 = .ok (.iload 5, 2) := by decide +kernel
theorem dX12_rivet_98 : decode cX12_rivet 98 = .ok (.iaload, 1) := by decide +kernel
theorem dX12_rivet_99 : decode cX12_rivet 99 = .ok (.ireturn, 1) := by decide +kernel
theorem dX12_rivet_100 : decode cX12_rivet 100 = .ok (.aload_n 0, 1) := by decide +kernel
theorem dX12_rivet_101 : decode cX12_rivet 101 = .ok (.iload_n 1, 1) := by decide +kernel
theorem dX12_rivet_102 : decode cX12_rivet 102 = .ok (.iload_n 2, 1) := by decide +kernel
theorem dX12_rivet_103 : decode cX12_rivet 103 = .ok (.iload_n 3, 1) := by decide +kernel
theorem dX12_rivet_104 : decode cX12_rivet 104 = .ok (.invokevirtual 410, 3) := by decide +kernel
theorem dX12_rivet_107 : decode cX12_rivet 107 = .ok (.ifCond .eq 7, 3) := by decide +kernel
theorem dX12_rivet_110 : decode cX12_rivet 110 = .ok (.iconst 1, 1) := by decide +kernel
theorem dX12_rivet_111 : decode cX12_rivet 111 = .ok (.goto 4, 3) := by decide +kernel
theorem dX12_rivet_114 : decode cX12_rivet 114 = .ok (.iconst 0, 1) := by decide +kernel
theorem dX12_rivet_115 : decode cX12_rivet 115 = .ok (.ireturn, 1) := by decide +kernel
theorem dX12_rivet_116 : decode cX12_rivet 116 = .ok (.sipush (-10000), 3) := by decide +kernel
theorem dX12_rivet_119 : decode cX12_rivet 119 = .ok (.ireturn, 1) := by decide +kernel
theorem dX12_cut_0 : decode cX12_cut 0 = .ok (.iload_n 1, 1) := by decide +kernel
theorem dX12_cut_1 : decode cX12_cut 1 = .ok (.i2l, 1) := by decide +kernel
theorem dX12_cut_2 : decode cX12_cut 2 = .ok (.lconst 0, 1) := by decide +kernel
theorem dX12_cut_3 : decode cX12_cut 3 = .ok (.iconst 1, 1) := by decide +kernel
theorem dX12_cut_4 : decode cX12_cut 4 = .ok (.aload_n 0, 1) := by decide +kernel
theorem dX12_cut_5 : decode cX12_cut 5 = .ok (.getfield 338, 3) := by decide +kernel
theorem dX12_cut_8 : decode cX12_cut 8 = .ok (.ishl, 1) := by decide +kernel
theorem dX12_cut_9 : decode cX12_cut 9 = .ok (.iconst 1, 1) := by decide +kernel
theorem dX12_cut_10 : decode cX12_cut 10 = .ok (.isub, 1) := by decide +kernel
theorem dX12_cut_11 : decode cX12_cut 11 = .ok (.i2l, 1) := by decide +kernel
theorem dX12_cut_12 : decode cX12_cut 12 = .ok (.invokestatic 155, 3) := by decide +kernel
theorem dX12_cut_15 : decode cX12_cut 15 = .ok (.ifCond .ne 5, 3) := by decide +kernel
theorem dX12_cut_18 : decode cX12_cut 18 = .ok (.iconst 0, 1) := by decide +kernel
theorem dX12_cut_19 : decode cX12_cut 19 = .ok (.ireturn, 1) := by decide +kernel
theorem dX12_cut_20 : decode cX12_cut 20 = .ok (.aload_n 0, 1) := by decide +kernel
theorem dX12_cut_21 : decode cX12_cut 21 = .ok (.iload_n 1, 1) := by decide +kernel
theorem dX12_cut_22 : decode cX12_cut 22 = .ok (.putfield 353, 3) := by decide +kernel
theorem dX12_cut_25 : decode cX12_cut 25 = .ok (.aload_n 0, 1) := by decide +kernel
theorem dX12_cut_26 : decode cX12_cut 26 = .ok (.invokevirtual 383, 3) := by decide +kernel
theorem dX12_cut_29 : decode cX12_cut 29 = .ok (.iconst 1, 1) := by decide +kernel
theorem dX12_cut_30 : decode cX12_cut 30 = .ok (.ireturn, 1) := by decide +kernel
theorem dX12_isDrawing_0 : decode cX12_isDrawing 0 = .ok (.iload_n 1, 1) := by decide +kernel
theorem dX12_isDrawing_1 : decode cX12_isDrawing 1 = .ok (.i2l, 1) := by decide +kernel
theorem dX12_isDrawing_2 : decode cX12_isDrawing 2 = .ok (.lconst 0, 1) := by decide +kernel
theorem dX12_isDrawing_3 : decode cX12_isDrawing 3 = .ok (.aload_n 0, 1) := by decide +kernel
theorem dX12_isDrawing_4 : decode cX12_isDrawing 4 = .ok (.getfield 369, 3) := by decide +kernel
theorem dX12_isDrawing_7 : decode cX12_isDrawing 7 = .ok (.iconst 1, 1) := by decide +kernel
theorem dX12_isDrawing_8 : decode cX12_isDrawing 8 = .ok (.isub, 1) := by decide +kernel
theorem dX12_isDrawing_9 : decode cX12_isDrawing 9 = .ok (.i2l, 1) := by decide +kernel
theorem dX12_isDrawing_10 : decode cX12_isDrawing 10 = .ok (.invokestatic 155, 3) := by decide +kernel
theorem dX12_isDrawing_13 : decode cX12_isDrawing 13 = .ok (.ireturn, 1) := by decide +kernel
theorem dX12_drawing_0 : decode cX12_drawing 0 = .ok (.aload_n 0, 1) := by decide +kernel
theorem dX12_drawing_1 : decode cX12_drawing 1 = .ok (.getfield 338, 3) := by decide +kernel
theorem dX12_drawing_4 : decode cX12_drawing 4 = .ok (.ifCond .eq 23, 3) := by decide +kernel
theorem dX12_drawing_7 : decode cX12_drawing 7 = .ok (.aload_n 0, 1) := by decide +kernel
theorem dX12_drawing_8 : decode cX12_drawing 8 = .ok (.getfield 369, 3) := by decide +kernel
theorem dX12_drawing_11 : decode cX12_drawing 11 = .ok (.iconst 4, 1) := by decide +kernel
theorem dX12_drawing_12 : decode cX12_drawing 12 = .ok (.if_icmp .eq 15, 3) := by decide +kernel
theorem dX12_drawing_15 : decode cX12_drawing 15 = .ok (.iload_n 1, 1) := by decide +kernel
theorem dX12_drawing_16 : decode cX12_drawing 16 = .ok (.i2l, 1) := by decide +kernel
theorem dX12_drawing_17 : decode cX12_drawing 17 = .ok (.lconst 0, 1) := by decide +kernel
theorem dX12_drawing_18 : decode cX12_drawing 18 = .ok (.ldc2_w 413, 3) := by decide +kernel
theorem dX12_drawing_21 : decode cX12_drawing 21 = .ok (.invokestatic 155, 3) := by decide +kernel
theorem dX12_drawing_24 : decode cX12_drawing 24 = .ok (.ifCond .ne 5, 3) := by decide +kernel
theorem dX12_drawing_27 : decode cX12_drawing 27 = .ok (.iconst (-1), 1) := by decide +kernel
theorem dX12_drawing_28 : decode cX12_drawing 28 = .ok (.ireturn, 1) := by decide +kernel
theorem dX12_drawing_29 : decode cX12_drawing 29 = .ok (.iconst 0, 1) := by decide +kernel
theorem dX12_drawing_30 : decode cX12_drawing 30 = .ok (.istore_n 2, 1) := by decide +kernel
theorem dX12_drawing_31 : decode cX12_drawing 31 = .ok (.iload_n 2, 1) := by decide +kernel
theorem dX12_drawing_32 : decode cX12_drawing 32 = .ok (.sipush 384, 3) := by decide +kernel
theorem dX12_drawing_35 : decode cX12_drawing 35 = .ok (.if_icmp .ge 25, 3) := by decide +kernel
theorem dX12_drawing_38 : decode cX12_drawing 38 = .ok (.aload_n 0, 1) := by decide +kernel
theorem dX12_drawing_39 : decode cX12_drawing 39 = .ok (.getfield 85, 3) := by decide +kernel
theorem dX12_drawing_42 : decode cX12_drawing 42 = .ok (.sipush 384, 3) := by decide +kernel
theorem dX12_drawing_45 : decode cX12_drawing 45 = .ok (.aload_n 0, 1) := by decide +kernel
theorem dX12_drawing_46 : decode cX12_drawing 46 = .ok (.getfield 369, 3) := by decide +kernel
theorem dX12_drawing_49 : decode cX12_drawing 49 = .ok (.imul, 1) := by decide +kernel
theorem dX12_drawing_50 : decode cX12_drawing 50 = .ok (.iload_n 2, 1) := by decide +kernel
theorem dX12_drawing_51 : decode cX12_drawing 51 = .ok (.iadd, 1) := by decide +kernel
theorem dX12_drawing_52 : decode cX12_drawing 52 = .ok (.iconst 0, 1) := by decide +kernel
theorem dX12_drawing_53 : decode cX12_drawing 53 = .ok (.bastore, 1) := by decide +kernel
theorem dX12_drawing_54 : decode cX12_drawing 54 = .ok (.iinc 2 1, 3) := by decide +kernel
theorem dX12_drawing_57 : decode cX12_drawing 57 = .ok (.goto (-26), 3) := by decide +kernel
theorem dX12_drawing_60 : decode cX12_drawing 60 = .ok (.aload_n 0, 1) := by decide +kernel
theorem dX12_drawing_61 : decode cX12_drawing 61 = .ok (.dup, 1) := by decide +kernel
theorem dX12_drawing_62 : decode cX12_drawing 62 = .ok (.getfield 369, 3) := by decide +kernel
theorem dX12_drawing_65 : decode cX12_drawing 65 = .ok (.iconst 1, 1) := by decide +kernel
theorem dX12_drawing_66 : decode cX12_drawing 66 = .ok (.iadd, 1) := by decide +kernel
theorem dX12_drawing_67 : decode cX12_drawing 67 = .ok (.putfield 369, 3) := by decide +kernel
theorem dX12_drawing_70 : decode cX12_drawing 70 = .ok (.aload_n 0, 1) := by decide +kernel
theorem dX12_drawing_71 : decode cX12_drawing 71 = .ok (.getfield 369, 3) := by decide +kernel
theorem dX12_drawing_74 : decode cX12_drawing 74 = .ok (.iconst 1, 1) := by decide +kernel
theorem dX12_drawing_75 : decode cX12_drawing 75 = .ok (.isub, 1) := by decide +kernel
theorem dX12_drawing_76 : decode cX12_drawing 76 = .ok (.ireturn, 1) := by decide +kernel
theorem dX12_mark_0 : decode cX12_mark 0 = .ok (.aload_n 0, 1) := by decide +kernel
theorem dX12_mark_1 : decode cX12_mark 1 = .ok (.iload_n 1, 1) := by decide +kernel
theorem dX12_mark_2 : decode cX12_mark 2 = .ok (.invokevirtual 415, 3) := by decide +kernel
theorem dX12_mark_5 : decode cX12_mark 5 = .ok (.ifCond .eq 44, 3) := by decide +kernel
theorem dX12_mark_8 : decode cX12_mark 8 = .ok (.aload_n 0, 1) := by decide +kernel
theorem dX12_mark_9 : decode cX12_mark 9 = .ok (.iload_n 2, 1) := by decide +kernel
theorem dX12_mark_10 : decode cX12_mark 10 = .ok (.iload_n 3, 1) := by decide +kernel
theorem dX12_mark_11 : decode cX12_mark 11 = .ok (.iload 4, 2) := by decide +kernel
theorem dX12_mark_13 : decode cX12_mark 13 = .ok (.invokevirtual 402, 3) := by decide +kernel
theorem dX12_mark_16 : decode cX12_mark 16 = .ok (.ifCond .eq 33, 3) := by decide +kernel
theorem dX12_mark_19 : decode cX12_mark 19 = .ok (.iload 5, 2) := by decide +kernel
theorem dX12_mark_21 : decode cX12_mark 21 = .ok (.i2l, 1) := by decide +kernel
theorem dX12_mark_22 : decode cX12_mark 22 = .ok (.ldc2_w 418, 3) := by decide +kernel
theorem dX12_mark_25 : decode cX12_mark 25 = .ok (.ldc2_w 420, 3) := by decide +kernel
theorem dX12_mark_28 : decode cX12_mark 28 = .ok (.invokestatic 155, 3) := by decide +kernel
theorem dX12_mark_31 : decode cX12_mark 31 = .ok (.ifCond .eq 18, 3) := by decide +kernel
theorem dX12_mark_34 : decode cX12_mark 34 = .ok (.iload 6, 2) := by decide +kernel
theorem dX12_mark_36 : decode cX12_mark 36 = .ok (.i2l, 1) := by decide +kernel
theorem dX12_mark_37 : decode cX12_mark 37 = .ok (.ldc2_w 418, 3) := by decide +kernel
theorem dX12_mark_40 : decode cX12_mark 40 = .ok (.ldc2_w 420, 3) := by decide +kernel
theorem dX12_mark_43 : decode cX12_mark 43 = .ok (.invokestatic 155, 3) := by decide +kernel
theorem dX12_mark_46 : decode cX12_mark 46 = .ok (.ifCond .ne 5, 3) := by decide +kernel
theorem dX12_mark_49 : decode cX12_mark 49 = .ok (.iconst 0, 1) := by decide +kernel
theorem dX12_mark_50 : decode cX12_mark 50 = .ok (.ireturn, 1) := by decide +kernel
theorem dX12_mark_51 : decode cX12_mark 51 = .ok (.aload_n 0, 1) := by decide +kernel
theorem dX12_mark_52 : decode cX12_mark 52 = .ok (.iload_n 1, 1) := by decide +kernel
theorem dX12_mark_53 : decode cX12_mark 53 = .ok (.iload_n 2, 1) := by decide +kernel
theorem dX12_mark_54 : decode cX12_mark 54 = .ok (.iload_n 3, 1) := by decide +kernel
theorem dX12_mark_55 : decode cX12_mark 55 = .ok (.iload 4, 2) := by decide +kernel
theorem dX12_mark_57 : decode cX12_mark 57 = .ok (.invokestatic 350, 3) := by decide +kernel
theorem dX12_mark_60 : decode cX12_mark 60 = .ok (.iload 5, 2) := by decide +kernel
theorem dX12_mark_62 : decode cX12_mark 62 = .ok (.iload 6, 2) := by decide +kernel
theorem dX12_mark_64 : decode cX12_mark 64 = .ok (.invokevirtual 422, 3) := by decide +kernel
theorem dX12_mark_67 : decode cX12_mark 67 = .ok (.iconst 1, 1) := by decide +kernel
theorem dX12_mark_68 : decode cX12_mark 68 = .ok (.ireturn, 1) := by decide +kernel
theorem dX12_draw_0 : decode cX12_draw 0 = .ok (.aload_n 0, 1) := by decide +kernel
theorem dX12_draw_1 : decode cX12_draw 1 = .ok (.iload_n 1, 1) := by decide +kernel
theorem dX12_draw_2 : decode cX12_draw 2 = .ok (.invokevirtual 415, 3) := by decide +kernel
theorem dX12_draw_5 : decode cX12_draw 5 = .ok (.ifCond .eq 44, 3) := by decide +kernel
theorem dX12_draw_8 : decode cX12_draw 8 = .ok (.iload_n 2, 1) := by decide +kernel
theorem dX12_draw_9 : decode cX12_draw 9 = .ok (.i2l, 1) := by decide +kernel
theorem dX12_draw_10 : decode cX12_draw 10 = .ok (.ldc2_w 426, 3) := by decide +kernel
theorem dX12_draw_13 : decode cX12_draw 13 = .ok (.ldc2_w 428, 3) := by decide +kernel
theorem dX12_draw_16 : decode cX12_draw 16 = .ok (.invokestatic 155, 3) := by decide +kernel
theorem dX12_draw_19 : decode cX12_draw 19 = .ok (.ifCond .eq 30, 3) := by decide +kernel
theorem dX12_draw_22 : decode cX12_draw 22 = .ok (.iload_n 3, 1) := by decide +kernel
theorem dX12_draw_23 : decode cX12_draw 23 = .ok (.i2l, 1) := by decide +kernel
theorem dX12_draw_24 : decode cX12_draw 24 = .ok (.ldc2_w 426, 3) := by decide +kernel
theorem dX12_draw_27 : decode cX12_draw 27 = .ok (.ldc2_w 428, 3) := by decide +kernel
theorem dX12_draw_30 : decode cX12_draw 30 = .ok (.invokestatic 155, 3) := by decide +kernel
theorem dX12_draw_33 : decode cX12_draw 33 = .ok (.ifCond .eq 16, 3) := by decide +kernel
theorem dX12_draw_36 : decode cX12_draw 36 = .ok (.iload 4, 2) := by decide +kernel
theorem dX12_draw_38 : decode cX12_draw 38 = .ok (.i2l, 1) := by decide +kernel
theorem dX12_draw_39 : decode cX12_draw 39 = .ok (.lconst 0, 1) := by decide +kernel
theorem dX12_draw_40 : decode cX12_draw 40 = .ok (.ldc2_w 153, 3) := by decide +kernel
theorem dX12_draw_43 : decode cX12_draw 43 = .ok (.invokestatic 155, 3) := by decide +kernel
theorem dX12_draw_46 : decode cX12_draw 46 = .ok (.ifCond .ne 5, 3) := by decide +kernel
theorem dX12_draw_49 : decode cX12_draw 49 = .ok (.iconst (-1), 1) := by decide +kernel
theorem dX12_draw_50 : decode cX12_draw 50 = .ok (.ireturn, 1) := by decide +kernel
theorem dX12_draw_51 : decode cX12_draw 51 = .ok (.iconst 0, 1) := by decide +kernel
theorem dX12_draw_52 : decode cX12_draw 52 = .ok (.istore 5, 2) := by decide +kernel
theorem dX12_draw_54 : decode cX12_draw 54 = .ok (.iload 5, 2) := by decide +kernel
theorem dX12_draw_56 : decode cX12_draw 56 = .ok (.aload_n 0, 1) := by decide +kernel
theorem dX12_draw_57 : decode cX12_draw 57 = .ok (.getfield 338, 3) := by decide +kernel
theorem dX12_draw_60 : decode cX12_draw 60 = .ok (.if_icmp .ge 118, 3) := by decide +kernel
theorem dX12_draw_63 : decode cX12_draw 63 = .ok (.iconst 0, 1) := by decide +kernel
theorem dX12_draw_64 : decode cX12_draw 64 = .ok (.istore 6, 2) := by decide +kernel
theorem dX12_draw_66 : decode cX12_draw 66 = .ok (.iload 6, 2) := by decide +kernel
theorem dX12_draw_68 : decode cX12_draw 68 = .ok (.aload_n 0, 1) := by decide +kernel
theorem dX12_draw_69 : decode cX12_draw 69 = .ok (.getfield 341, 3) := by decide +kernel
theorem dX12_draw_72 : decode cX12_draw 72 = .ok (.if_icmp .ge 100, 3) := by decide +kernel
theorem dX12_draw_75 : decode cX12_draw 75 = .ok (.iconst 0, 1) := by decide +kernel
theorem dX12_draw_76 : decode cX12_draw 76 = .ok (.istore 7, 2) := by decide +kernel
theorem dX12_draw_78 : decode cX12_draw 78 = .ok (.iload 7, 2) := by decide +kernel
theorem dX12_draw_80 : decode cX12_draw 80 = .ok (.iconst 2, 1) := by decide +kernel
theorem dX12_draw_81 : decode cX12_draw 81 = .ok (.if_icmp .ge 85, 3) := by decide +kernel
theorem dX12_draw_84 : decode cX12_draw 84 = .ok (.aload_n 0, 1) := by decide +kernel
theorem dX12_draw_85 : decode cX12_draw 85 = .ok (.iload 5, 2) := by decide +kernel
theorem dX12_draw_87 : decode cX12_draw 87 = .ok (.iload 6, 2) := by decide +kernel
theorem dX12_draw_89 : decode cX12_draw 89 = .ok (.iload 7, 2) := by decide +kernel
theorem dX12_draw_91 : decode cX12_draw 91 = .ok (.invokevirtual 410, 3) := by decide +kernel
theorem dX12_draw_94 : decode cX12_draw 94 = .ok (.ifCond .ne 6, 3) := by decide +kernel
theorem dX12_draw_97 : decode cX12_draw 97 = .ok (.goto 63, 3) := by decide +kernel
theorem dX12_draw_100 : decode cX12_draw 100 = .ok (.aload_n 0, 1) := by decide +kernel
theorem dX12_draw_101 : decode cX12_draw 101 = .ok (.invokevirtual 388, 3) := by decide +kernel
theorem dX12_draw_104 : decode cX12_draw 104 = .ok (.iload 5, 2) := by decide +kernel
theorem dX12_draw_106 : decode cX12_draw 106 = .ok (.iload 6, 2) := by decide +kernel
theorem dX12_draw_108 : decode cX12_draw 108 = .ok (.iload 7, 2) := by decide +kernel
theorem dX12_draw_110 : decode cX12_draw 110 = .ok (.invokestatic 350, 3) := by decide +kernel
theorem dX12_draw_113 : decode cX12_draw 113 = .ok (.istore 8, 2) := by decide +kernel
theorem dX12_draw_115 : decode cX12_draw 115 = .ok (.aload_n 0, 1) := by decide +kernel
theorem dX12_draw_116 : decode cX12_draw 116 = .ok (.iload_n 1, 1) := by decide +kernel
theorem dX12_draw_117 : decode cX12_draw 117 = .ok (.iload 8, 2) := by decide +kernel
theorem dX12_draw_119 : decode cX12_draw 119 = .ok (.aload_n 0, 1) := by decide +kernel
theorem dX12_draw_120 : decode cX12_draw 120 = .ok (.getfield 70, 3) := by decide +kernel
theorem dX12_draw_123 : decode cX12_draw 123 = .ok (.iload 8, 2) := by decide +kernel
theorem dX12_draw_125 : decode cX12_draw 125 = .ok (.iaload, 1) := by decide +kernel
theorem dX12_draw_126 : decode cX12_draw 126 = .ok (.iload_n 2, 1) := by decide +kernel
theorem dX12_draw_127 : decode cX12_draw 127 = .ok (.iadd, 1) := by decide +kernel
theorem dX12_draw_128 : decode cX12_draw 128 = .ok (.aload_n 0, 1) := by decide +kernel
theorem dX12_draw_129 : decode cX12_draw 129 = .ok (.getfield 17, 3) := by decide +kernel
theorem dX12_draw_132 : decode cX12_draw 132 = .ok (.sipush 1000, 3) := by decide +kernel
theorem dX12_draw_135 : decode cX12_draw 135 = .ok (.irem, 1) := by decide +kernel
theorem dX12_draw_136 : decode cX12_draw 136 = .ok (.iload 4, 2) := by decide +kernel
theorem dX12_draw_138 : decode cX12_draw 138 = .ok (.if_icmp .ge 8, 3) := by decide +kernel
theorem dX12_draw_141 : decode cX12_draw 141 = .ok (.bipush 50, 2) := by decide +kernel
theorem dX12_draw_143 : decode cX12_draw 143 = .ok (.goto 4, 3) := by decide +kernel
theorem dX12_draw_146 : decode cX12_draw 146 = .ok (.iconst 0, 1) := by decide +kernel
theorem dX12_draw_147 : decode cX12_draw 147 = .ok (.iadd, 1) := by decide +kernel
theorem dX12_draw_148 : decode cX12_draw 148 = .ok (.aload_n 0, 1) := by decide +kernel
theorem dX12_draw_149 : decode cX12_draw 149 = .ok (.getfield 73, 3) := by decide +kernel
theorem dX12_draw_152 : decode cX12_draw 152 = .ok (.iload 8, 2) := by decide +kernel
theorem dX12_draw_154 : decode cX12_draw 154 = .ok (.iaload, 1) := by decide +kernel
theorem dX12_draw_155 : decode cX12_draw 155 = .ok (.iload_n 3, 1) := by decide +kernel
theorem dX12_draw_156 : decode cX12_draw 156 = .ok (.iadd, 1) := by decide +kernel
theorem dX12_draw_157 : decode cX12_draw 157 = .ok (.invokevirtual 422, 3) := by decide +kernel
theorem dX12_draw_160 : decode cX12_draw 160 = .ok (.iinc 7 1, 3) := by decide +kernel
theorem dX12_draw_163 : decode cX12_draw 163 = .ok (.goto (-85), 3) := by decide +kernel
theorem dX12_draw_166 : decode cX12_draw 166 = .ok (.iinc 6 1, 3) := by decide +kernel
theorem dX12_draw_169 : decode cX12_draw 169 = .ok (.goto (-103), 3) := by decide +kernel
theorem dX12_draw_172 : decode cX12_draw 172 = .ok (.iinc 5 1, 3) := by decide +kernel
theorem dX12_draw_175 : decode cX12_draw 175 = .ok (.goto (-121), 3) := by decide +kernel
theorem dX12_draw_178 : decode cX12_draw 178 = .ok (.aload_n 0, 1) := by decide +kernel
theorem dX12_draw_179 : decode cX12_draw 179 = .ok (.iload_n 1, 1) := by decide +kernel
theorem dX12_draw_180 : decode cX12_draw 180 = .ok (.invokevirtual 430, 3) := by decide +kernel
theorem dX12_draw_183 : decode cX12_draw 183 = .ok (.ireturn, 1) := by decide +kernel
theorem dX12_marked_0 : decode cX12_marked 0 = .ok (.aload_n 0, 1) := by decide +kernel
theorem dX12_marked_1 : decode cX12_marked 1 = .ok (.iload_n 1, 1) := by decide +kernel
theorem dX12_marked_2 : decode cX12_marked 2 = .ok (.invokevirtual 415, 3) := by decide +kernel
theorem dX12_marked_5 : decode cX12_marked 5 = .ok (.ifCond .eq 46, 3) := by decide +kernel
theorem dX12_marked_8 : decode cX12_marked 8 = .ok (.aload_n 0, 1) := by decide +kernel
theorem dX12_marked_9 : decode cX12_marked 9 = .ok (.iload_n 2, 1) := by decide +kernel
theorem dX12_marked_10 : decode cX12_marked 10 = .ok (.iload_n 3, 1) := by decide +kernel
theorem dX12_marked_11 : decode cX12_marked 11 = .ok (.iload 4, 2) := by decide +kernel
theorem dX12_marked_13 : decode cX12_marked 13 = .ok (.invokevirtual 402, 3) := by decide +kernel
theorem dX12_marked_16 : decode cX12_marked 16 = .ok (.ifCond .eq 35, 3) := by decide +kernel
theorem dX12_marked_19 : decode cX12_marked 19 = .ok (.iload 5, 2) := by decide +kernel
theorem dX12_marked_21 : decode cX12_marked 21 = .ok (.i2l, 1) := by decide +kernel
theorem dX12_marked_22 : decode cX12_marked 22 = .ok (.lconst 0, 1) := by decide +kernel
theorem dX12_marked_23 : decode cX12_marked 23 = .ok (.lconst 1, 1) := by decide +kernel
theorem dX12_marked_24 : decode cX12_marked 24 = .ok (.invokestatic 155, 3) := by decide +kernel
theorem dX12_marked_27 : decode cX12_marked 27 = .ok (.ifCond .eq 24, 3) := by decide +kernel
theorem dX12_marked_30 : decode cX12_marked 30 = .ok (.aload_n 0, 1) := by decide +kernel
theorem dX12_marked_31 : decode cX12_marked 31 = .ok (.getfield 85, 3) := by decide +kernel
theorem dX12_marked_34 : decode cX12_marked 34 = .ok (.sipush 384, 3) := by decide +kernel
theorem dX12_marked_37 : decode cX12_marked 37 = .ok (.iload_n 1, 1) := by decide +kernel
theorem dX12_marked_38 : decode cX12_marked 38 = .ok (.imul, 1) := by decide +kernel
theorem dX12_marked_39 : decode cX12_marked 39 = .ok (.iload_n 2, 1) := by decide +kernel
theorem dX12_marked_40 : decode cX12_marked 40 = .ok (.iload_n 3, 1) := by decide +kernel
theorem dX12_marked_41 : decode cX12_marked 41 = .ok (.iload 4, 2) := by decide +kernel
theorem dX12_marked_43 : decode cX12_marked 43 = .ok (.invokestatic 350, 3) := by decide +kernel
theorem dX12_marked_46 : decode cX12_marked 46 = .ok (.iadd, 1) := by decide +kernel
theorem dX12_marked_47 : decode cX12_marked 47 = .ok (.baload, 1) := by decide +kernel
theorem dX12_marked_48 : decode cX12_marked 48 = .ok (.ifCond .ne 7, 3) := by decide +kernel
theorem dX12_marked_51 : decode cX12_marked 51 = .ok (.sipush (-10000), 3) := by decide +kernel
theorem dX12_marked_54 : decode cX12_marked 54 = .ok (.ireturn, 1) := by decide +kernel
theorem dX12_marked_55 : decode cX12_marked 55 = .ok (.sipush 384, 3) := by decide +kernel
theorem dX12_marked_58 : decode cX12_marked 58 = .ok (.iload_n 1, 1) := by decide +kernel
theorem dX12_marked_59 : decode cX12_marked 59 = .ok (.imul, 1) := by decide +kernel
theorem dX12_marked_60 : decode cX12_marked 60 = .ok (.iload_n 2, 1) := by decide +kernel
theorem dX12_marked_61 : decode cX12_marked 61 = .ok (.iload_n 3, 1) := by decide +kernel
theorem dX12_marked_62 : decode cX12_marked 62 = .ok (.iload 4, 2) := by decide +kernel
theorem dX12_marked_64 : decode cX12_marked 64 = .ok (.invokestatic 350, 3) := by decide +kernel
theorem dX12_marked_67 : decode cX12_marked 67 = .ok (.iadd, 1) := by decide +kernel
theorem dX12_marked_68 : decode cX12_marked 68 = .ok (.istore 6, 2) := by decide +kernel
theorem dX12_marked_70 : decode cX12_marked 70 = .ok (.iload 5, 2) := by decide +kernel
theorem dX12_marked_72 : decode cX12_marked 72 = .ok (.ifCond .ne 13, 3) := by decide +kernel
theorem dX12_marked_75 : decode cX12_marked 75 = .ok (.aload_n 0, 1) := by decide +kernel
theorem dX12_marked_76 : decode cX12_marked 76 = .ok (.getfield 88, 3) := by decide +kernel
theorem dX12_marked_79 : decode cX12_marked 79 = .ok (.iload 6, 2) := by decide +kernel
theorem dX12_marked_81 : decode cX12_marked 81 = .ok (.iaload, 1) := by decide +kernel
theorem dX12_marked_82 : decode cX12_marked 82 = .ok (.goto 10, 3) := by decide +kernel
theorem dX12_marked_85 : decode cX12_marked 85 = .ok (.aload_n 0, 1) := by decide +kernel
theorem dX12_marked_86 : decode cX12_marked 86 = .ok (.getfield 91, 3) := by decide +kernel
theorem dX12_marked_89 : decode cX12_marked 89 = .ok (.iload 6, 2) := by decide +kernel
theorem dX12_marked_91 : decode cX12_marked 91 = .ok (.iaload, 1) := by decide +kernel
theorem dX12_marked_92 : decode cX12_marked 92 = .ok (.ireturn, 1) := by decide +kernel
theorem dX12_areTwo_0 : decode cX12_areTwo 0 = .ok (.aload_n 0, 1) := by decide +kernel
theorem dX12_areTwo_1 : decode cX12_areTwo 1 = .ok (.iload_n 1, 1) := by decide +kernel
theorem dX12_areTwo_2 : decode cX12_areTwo 2 = .ok (.invokevirtual 415, 3) := by decide +kernel
theorem dX12_areTwo_5 : decode cX12_areTwo 5 = .ok (.ifCond .eq 20, 3) := by decide +kernel
theorem dX12_areTwo_8 : decode cX12_areTwo 8 = .ok (.aload_n 0, 1) := by decide +kernel
theorem dX12_areTwo_9 : decode cX12_areTwo 9 = .ok (.iload_n 2, 1) := by decide +kernel
theorem dX12_areTwo_10 : decode cX12_areTwo 10 = .ok (.invokevirtual 415, 3) := by decide +kernel
theorem dX12_areTwo_13 : decode cX12_areTwo 13 = .ok (.ifCond .eq 12, 3) := by decide +kernel
theorem dX12_areTwo_16 : decode cX12_areTwo 16 = .ok (.iload_n 1, 1) := by decide +kernel
theorem dX12_areTwo_17 : decode cX12_areTwo 17 = .ok (.iload_n 2, 1) := by decide +kernel
theorem dX12_areTwo_18 : decode cX12_areTwo 18 = .ok (.if_icmp .eq 7, 3) := by decide +kernel
theorem dX12_areTwo_21 : decode cX12_areTwo 21 = .ok (.iconst 1, 1) := by decide +kernel
theorem dX12_areTwo_22 : decode cX12_areTwo 22 = .ok (.goto 4, 3) := by decide +kernel
theorem dX12_areTwo_25 : decode cX12_areTwo 25 = .ok (.iconst 0, 1) := by decide +kernel
theorem dX12_areTwo_26 : decode cX12_areTwo 26 = .ok (.ireturn, 1) := by decide +kernel
theorem dX12_joined_0 : decode cX12_joined 0 = .ok (.aload_n 0, 1) := by decide +kernel
theorem dX12_joined_1 : decode cX12_joined 1 = .ok (.iload_n 1, 1) := by decide +kernel
theorem dX12_joined_2 : decode cX12_joined 2 = .ok (.iload_n 2, 1) := by decide +kernel
theorem dX12_joined_3 : decode cX12_joined 3 = .ok (.invokevirtual 465, 3) := by decide +kernel
theorem dX12_joined_6 : decode cX12_joined 6 = .ok (.ifCond .eq 15, 3) := by decide +kernel
theorem dX12_joined_9 : decode cX12_joined 9 = .ok (.iload_n 3, 1) := by decide +kernel
theorem dX12_joined_10 : decode cX12_joined 10 = .ok (.i2l, 1) := by decide +kernel
theorem dX12_joined_11 : decode cX12_joined 11 = .ok (.lconst 0, 1) := by decide +kernel
theorem dX12_joined_12 : decode cX12_joined 12 = .ok (.ldc2_w 468, 3) := by decide +kernel
theorem dX12_joined_15 : decode cX12_joined 15 = .ok (.invokestatic 155, 3) := by decide +kernel
theorem dX12_joined_18 : decode cX12_joined 18 = .ok (.ifCond .ne 7, 3) := by decide +kernel
theorem dX12_joined_21 : decode cX12_joined 21 = .ok (.ldc_w 470, 3) := by decide +kernel
theorem dX12_joined_24 : decode cX12_joined 24 = .ok (.ireturn, 1) := by decide +kernel
theorem dX12_joined_25 : decode cX12_joined 25 = .ok (.aload_n 0, 1) := by decide +kernel
theorem dX12_joined_26 : decode cX12_joined 26 = .ok (.iload_n 1, 1) := by decide +kernel
theorem dX12_joined_27 : decode cX12_joined 27 = .ok (.iload_n 2, 1) := by decide +kernel
theorem dX12_joined_28 : decode cX12_joined 28 = .ok (.invokevirtual 471, 3) := by decide +kernel
theorem dX12_joined_31 : decode cX12_joined 31 = .ok (.iload_n 3, 1) := by decide +kernel
theorem dX12_joined_32 : decode cX12_joined 32 = .ok (.iconst 2, 1) := by decide +kernel
theorem dX12_joined_33 : decode cX12_joined 33 = .ok (.if_icmp .ne 8, 3) := by decide +kernel
theorem dX12_joined_36 : decode cX12_joined 36 = .ok (.aload_n 0, 1) := by decide +kernel
theorem dX12_joined_37 : decode cX12_joined 37 = .ok (.getfield 440, 3) := by decide +kernel
theorem dX12_joined_40 : decode cX12_joined 40 = .ok (.ireturn, 1) := by decide +kernel
theorem dX12_joined_41 : decode cX12_joined 41 = .ok (.aload_n 0, 1) := by decide +kernel
theorem dX12_joined_42 : decode cX12_joined 42 = .ok (.getfield 440, 3) := by decide +kernel
theorem dX12_joined_45 : decode cX12_joined 45 = .ok (.ifCond .ne 7, 3) := by decide +kernel
theorem dX12_joined_48 : decode cX12_joined 48 = .ok (.ldc_w 470, 3) := by decide +kernel
theorem dX12_joined_51 : decode cX12_joined 51 = .ok (.ireturn, 1) := by decide +kernel
theorem dX12_joined_52 : decode cX12_joined 52 = .ok (.iload_n 3, 1) := by decide +kernel
theorem dX12_joined_53 : decode cX12_joined 53 = .ok (.ifCond .ne 10, 3) := by decide +kernel
theorem dX12_joined_56 : decode cX12_joined 56 = .ok (.aload_n 0, 1) := by decide +kernel
theorem dX12_joined_57 : decode cX12_joined 57 = .ok (.getfield 450, 3) := by decide +kernel
theorem dX12_joined_60 : decode cX12_joined 60 = .ok (.goto 31, 3) := by decide +kernel
theorem dX12_joined_63 : decode cX12_joined 63 = .ok (.iload_n 3, 1) := by decide +kernel
theorem dX12_joined_64 : decode cX12_joined 64 = .ok (.iconst 1, 1) := by decide +kernel
theorem dX12_joined_65 : decode cX12_joined 65 = .ok (.if_icmp .ne 10, 3) := by decide +kernel
theorem dX12_joined_68 : decode cX12_joined 68 = .ok (.aload_n 0, 1) := by decide +kernel
theorem dX12_joined_69 : decode cX12_joined 69 = .ok (.getfield 459, 3) := by decide +kernel
theorem dX12_joined_72 : decode cX12_joined 72 = .ok (.goto 19, 3) := by decide +kernel
theorem dX12_joined_75 : decode cX12_joined 75 = .ok (.iload_n 3, 1) := by decide +kernel
theorem dX12_joined_76 : decode cX12_joined 76 = .ok (.iconst 3, 1) := by decide +kernel
theorem dX12_joined_77 : decode cX12_joined 77 = .ok (.if_icmp .ne 10, 3) := by decide +kernel
theorem dX12_joined_80 : decode cX12_joined 80 = .ok (.aload_n 0, 1) := by decide +kernel
theorem dX12_joined_81 : decode cX12_joined 81 = .ok (.getfield 456, 3) := by decide +kernel
theorem dX12_joined_84 : decode cX12_joined 84 = .ok (.goto 7, 3) := by decide +kernel
theorem dX12_joined_87 : decode cX12_joined 87 = .ok (.aload_n 0, 1) := by decide +kernel
theorem dX12_joined_88 : decode cX12_joined 88 = .ok (.getfield 462, 3) := by decide +kernel
theorem dX12_joined_91 : decode cX12_joined 91 = .ok (.ireturn, 1) := by decide +kernel
theorem dX12_off_0 : decode cX12_off 0 = .ok (.aload_n 0, 1) := by decide +kernel
theorem dX12_off_1 : decode cX12_off 1 = .ok (.iload_n 1, 1) := by decide +kernel
theorem dX12_off_2 : decode cX12_off 2 = .ok (.iload_n 2, 1) := by decide +kernel
theorem dX12_off_3 : decode cX12_off 3 = .ok (.invokevirtual 465, 3) := by decide +kernel
theorem dX12_off_6 : decode cX12_off 6 = .ok (.ifCond .eq 15, 3) := by decide +kernel
theorem dX12_off_9 : decode cX12_off 9 = .ok (.iload_n 3, 1) := by decide +kernel
theorem dX12_off_10 : decode cX12_off 10 = .ok (.i2l, 1) := by decide +kernel
theorem dX12_off_11 : decode cX12_off 11 = .ok (.lconst 0, 1) := by decide +kernel
theorem dX12_off_12 : decode cX12_off 12 = .ok (.ldc2_w 474, 3) := by decide +kernel
theorem dX12_off_15 : decode cX12_off 15 = .ok (.invokestatic 155, 3) := by decide +kernel
theorem dX12_off_18 : decode cX12_off 18 = .ok (.ifCond .ne 5, 3) := by decide +kernel
theorem dX12_off_21 : decode cX12_off 21 = .ok (.iconst (-1), 1) := by decide +kernel
theorem dX12_off_22 : decode cX12_off 22 = .ok (.ireturn, 1) := by decide +kernel
theorem dX12_off_23 : decode cX12_off 23 = .ok (.aload_n 0, 1) := by decide +kernel
theorem dX12_off_24 : decode cX12_off 24 = .ok (.iload_n 1, 1) := by decide +kernel
theorem dX12_off_25 : decode cX12_off 25 = .ok (.iload_n 2, 1) := by decide +kernel
theorem dX12_off_26 : decode cX12_off 26 = .ok (.invokevirtual 471, 3) := by decide +kernel
theorem dX12_off_29 : decode cX12_off 29 = .ok (.aload_n 0, 1) := by decide +kernel
theorem dX12_off_30 : decode cX12_off 30 = .ok (.getfield 440, 3) := by decide +kernel
theorem dX12_off_33 : decode cX12_off 33 = .ok (.ifCond .ne 5, 3) := by decide +kernel
theorem dX12_off_36 : decode cX12_off 36 = .ok (.iconst (-1), 1) := by decide +kernel
theorem dX12_off_37 : decode cX12_off 37 = .ok (.ireturn, 1) := by decide +kernel
theorem dX12_off_38 : decode cX12_off 38 = .ok (.iconst 0, 1) := by decide +kernel
theorem dX12_off_39 : decode cX12_off 39 = .ok (.istore 4, 2) := by decide +kernel
theorem dX12_off_41 : decode cX12_off 41 = .ok (.iconst 0, 1) := by decide +kernel
theorem dX12_off_42 : decode cX12_off 42 = .ok (.istore 5, 2) := by decide +kernel
theorem dX12_off_44 : decode cX12_off 44 = .ok (.iload 5, 2) := by decide +kernel
theorem dX12_off_46 : decode cX12_off 46 = .ok (.sipush 384, 3) := by decide +kernel
theorem dX12_off_49 : decode cX12_off 49 = .ok (.if_icmp .ge 65, 3) := by decide +kernel
theorem dX12_off_52 : decode cX12_off 52 = .ok (.aload_n 0, 1) := by decide +kernel
theorem dX12_off_53 : decode cX12_off 53 = .ok (.iload_n 1, 1) := by decide +kernel
theorem dX12_off_54 : decode cX12_off 54 = .ok (.iload_n 2, 1) := by decide +kernel
theorem dX12_off_55 : decode cX12_off 55 = .ok (.iload 5, 2) := by decide +kernel
theorem dX12_off_57 : decode cX12_off 57 = .ok (.invokevirtual 433, 3) := by decide +kernel
theorem dX12_off_60 : decode cX12_off 60 = .ok (.ifCond .eq 48, 3) := by decide +kernel
theorem dX12_off_63 : decode cX12_off 63 = .ok (.aload_n 0, 1) := by decide +kernel
theorem dX12_off_64 : decode cX12_off 64 = .ok (.iload_n 1, 1) := by decide +kernel
theorem dX12_off_65 : decode cX12_off 65 = .ok (.iload_n 2, 1) := by decide +kernel
theorem dX12_off_66 : decode cX12_off 66 = .ok (.iload 5, 2) := by decide +kernel
theorem dX12_off_68 : decode cX12_off 68 = .ok (.iconst 1, 1) := by decide +kernel
theorem dX12_off_69 : decode cX12_off 69 = .ok (.invokevirtual 436, 3) := by decide +kernel
theorem dX12_off_72 : decode cX12_off 72 = .ok (.aload_n 0, 1) := by decide +kernel
theorem dX12_off_73 : decode cX12_off 73 = .ok (.getfield 450, 3) := by decide +kernel
theorem dX12_off_76 : decode cX12_off 76 = .ok (.isub, 1) := by decide +kernel
theorem dX12_off_77 : decode cX12_off 77 = .ok (.invokestatic 443, 3) := by decide +kernel
theorem dX12_off_80 : decode cX12_off 80 = .ok (.iload_n 3, 1) := by decide +kernel
theorem dX12_off_81 : decode cX12_off 81 = .ok (.if_icmp .gt 24, 3) := by decide +kernel
theorem dX12_off_84 : decode cX12_off 84 = .ok (.aload_n 0, 1) := by decide +kernel
theorem dX12_off_85 : decode cX12_off 85 = .ok (.iload_n 1, 1) := by decide +kernel
theorem dX12_off_86 : decode cX12_off 86 = .ok (.iload_n 2, 1) := by decide +kernel
theorem dX12_off_87 : decode cX12_off 87 = .ok (.iload 5, 2) := by decide +kernel
theorem dX12_off_89 : decode cX12_off 89 = .ok (.iconst 0, 1) := by decide +kernel
theorem dX12_off_90 : decode cX12_off 90 = .ok (.invokevirtual 436, 3) := by decide +kernel
theorem dX12_off_93 : decode cX12_off 93 = .ok (.aload_n 0, 1) := by decide +kernel
theorem dX12_off_94 : decode cX12_off 94 = .ok (.getfield 459, 3) := by decide +kernel
theorem dX12_off_97 : decode cX12_off 97 = .ok (.isub, 1) := by decide +kernel
theorem dX12_off_98 : decode cX12_off 98 = .ok (.invokestatic 443, 3) := by decide +kernel
theorem dX12_off_101 : decode cX12_off 101 = .ok (.iload_n 3, 1) := by decide +kernel
theorem dX12_off_102 : decode cX12_off 102 = .ok (.if_icmp .le 6, 3) := by decide +kernel
theorem dX12_off_105 : decode cX12_off 105 = .ok (.iinc 4 1, 3) := by decide +kernel
theorem dX12_off_108 : decode cX12_off 108 = .ok (.iinc 5 1, 3) := by decide +kernel
theorem dX12_off_111 : decode cX12_off 111 = .ok (.goto (-67), 3) := by decide +kernel
theorem dX12_off_114 : decode cX12_off 114 = .ok (.iload 4, 2) := by decide +kernel
theorem dX12_off_116 : decode cX12_off 116 = .ok (.ireturn, 1) := by decide +kernel
theorem dX12_slipped_0 : decode cX12_slipped 0 = .ok (.aload_n 0, 1) := by decide +kernel
theorem dX12_slipped_1 : decode cX12_slipped 1 = .ok (.iload_n 1, 1) := by decide +kernel
theorem dX12_slipped_2 : decode cX12_slipped 2 = .ok (.iload_n 2, 1) := by decide +kernel
theorem dX12_slipped_3 : decode cX12_slipped 3 = .ok (.invokevirtual 465, 3) := by decide +kernel
theorem dX12_slipped_6 : decode cX12_slipped 6 = .ok (.ifCond .eq 34, 3) := by decide +kernel
theorem dX12_slipped_9 : decode cX12_slipped 9 = .ok (.aload_n 0, 1) := by decide +kernel
theorem dX12_slipped_10 : decode cX12_slipped 10 = .ok (.iload_n 1, 1) := by decide +kernel
theorem dX12_slipped_11 : decode cX12_slipped 11 = .ok (.iload_n 3, 1) := by decide +kernel
theorem dX12_slipped_12 : decode cX12_slipped 12 = .ok (.invokevirtual 465, 3) := by decide +kernel
theorem dX12_slipped_15 : decode cX12_slipped 15 = .ok (.ifCond .eq 25, 3) := by decide +kernel
theorem dX12_slipped_18 : decode cX12_slipped 18 = .ok (.aload_n 0, 1) := by decide +kernel
theorem dX12_slipped_19 : decode cX12_slipped 19 = .ok (.iload_n 2, 1) := by decide +kernel
theorem dX12_slipped_20 : decode cX12_slipped 20 = .ok (.iload_n 3, 1) := by decide +kernel
theorem dX12_slipped_21 : decode cX12_slipped 21 = .ok (.invokevirtual 465, 3) := by decide +kernel
theorem dX12_slipped_24 : decode cX12_slipped 24 = .ok (.ifCond .eq 16, 3) := by decide +kernel
theorem dX12_slipped_27 : decode cX12_slipped 27 = .ok (.aload_n 0, 1) := by decide +kernel
theorem dX12_slipped_28 : decode cX12_slipped 28 = .ok (.iload 4, 2) := by decide +kernel
theorem dX12_slipped_30 : decode cX12_slipped 30 = .ok (.iload 5, 2) := by decide +kernel
theorem dX12_slipped_32 : decode cX12_slipped 32 = .ok (.iload 6, 2) := by decide +kernel
theorem dX12_slipped_34 : decode cX12_slipped 34 = .ok (.invokevirtual 402, 3) := by decide +kernel
theorem dX12_slipped_37 : decode cX12_slipped 37 = .ok (.ifCond .ne 5, 3) := by decide +kernel
theorem dX12_slipped_40 : decode cX12_slipped 40 = .ok (.iconst (-1), 1) := by decide +kernel
theorem dX12_slipped_41 : decode cX12_slipped 41 = .ok (.ireturn, 1) := by decide +kernel
theorem dX12_slipped_42 : decode cX12_slipped 42 = .ok (.iload 4, 2) := by decide +kernel
theorem dX12_slipped_44 : decode cX12_slipped 44 = .ok (.iload 5, 2) := by decide +kernel
theorem dX12_slipped_46 : decode cX12_slipped 46 = .ok (.iload 6, 2) := by decide +kernel
theorem dX12_slipped_48 : decode cX12_slipped 48 = .ok (.invokestatic 350, 3) := by decide +kernel
theorem dX12_slipped_51 : decode cX12_slipped 51 = .ok (.istore 7, 2) := by decide +kernel
theorem dX12_slipped_53 : decode cX12_slipped 53 = .ok (.aload_n 0, 1) := by decide +kernel
theorem dX12_slipped_54 : decode cX12_slipped 54 = .ok (.iload_n 1, 1) := by decide +kernel
theorem dX12_slipped_55 : decode cX12_slipped 55 = .ok (.iload_n 2, 1) := by decide +kernel
theorem dX12_slipped_56 : decode cX12_slipped 56 = .ok (.iload 7, 2) := by decide +kernel
theorem dX12_slipped_58 : decode cX12_slipped 58 = .ok (.invokevirtual 433, 3) := by decide +kernel
theorem dX12_slipped_61 : decode cX12_slipped 61 = .ok (.ifCond .eq 14, 3) := by decide +kernel
theorem dX12_slipped_64 : decode cX12_slipped 64 = .ok (.aload_n 0, 1) := by decide +kernel
theorem dX12_slipped_65 : decode cX12_slipped 65 = .ok (.iload_n 1, 1) := by decide +kernel
theorem dX12_slipped_66 : decode cX12_slipped 66 = .ok (.iload_n 3, 1) := by decide +kernel
theorem dX12_slipped_67 : decode cX12_slipped 67 = .ok (.iload 7, 2) := by decide +kernel
theorem dX12_slipped_69 : decode cX12_slipped 69 = .ok (.invokevirtual 433, 3) := by decide +kernel
theorem dX12_slipped_72 : decode cX12_slipped 72 = .ok (.ifCond .ne 5, 3) := by decide +kernel
theorem dX12_slipped_75 : decode cX12_slipped 75 = .ok (.iconst (-1), 1) := by decide +kernel
theorem dX12_slipped_76 : decode cX12_slipped 76 = .ok (.ireturn, 1) := by decide +kernel
theorem dX12_slipped_77 : decode cX12_slipped 77 = .ok (.aload_n 0, 1) := by decide +kernel
theorem dX12_slipped_78 : decode cX12_slipped 78 = .ok (.iload_n 1, 1) := by decide +kernel
theorem dX12_slipped_79 : decode cX12_slipped 79 = .ok (.iload_n 3, 1) := by decide +kernel
theorem dX12_slipped_80 : decode cX12_slipped 80 = .ok (.iload 7, 2) := by decide +kernel
theorem dX12_slipped_82 : decode cX12_slipped 82 = .ok (.invokevirtual 476, 3) := by decide +kernel
theorem dX12_slipped_85 : decode cX12_slipped 85 = .ok (.istore 8, 2) := by decide +kernel
theorem dX12_slipped_87 : decode cX12_slipped 87 = .ok (.aload_n 0, 1) := by decide +kernel
theorem dX12_slipped_88 : decode cX12_slipped 88 = .ok (.iload_n 2, 1) := by decide +kernel
theorem dX12_slipped_89 : decode cX12_slipped 89 = .ok (.iload_n 3, 1) := by decide +kernel
theorem dX12_slipped_90 : decode cX12_slipped 90 = .ok (.iload 7, 2) := by decide +kernel
theorem dX12_slipped_92 : decode cX12_slipped 92 = .ok (.invokevirtual 476, 3) := by decide +kernel
theorem dX12_slipped_95 : decode cX12_slipped 95 = .ok (.istore 9, 2) := by decide +kernel
theorem dX12_slipped_97 : decode cX12_slipped 97 = .ok (.iload 8, 2) := by decide +kernel
theorem dX12_slipped_99 : decode cX12_slipped 99 = .ok (.iload 9, 2) := by decide +kernel
theorem dX12_slipped_101 : decode cX12_slipped 101 = .ok (.if_icmp .le 7, 3) := by decide +kernel
theorem dX12_slipped_104 : decode cX12_slipped 104 = .ok (.iconst 0, 1) := by decide +kernel
theorem dX12_slipped_105 : decode cX12_slipped 105 = .ok (.goto 15, 3) := by decide +kernel
theorem dX12_slipped_108 : decode cX12_slipped 108 = .ok (.iload 9, 2) := by decide +kernel
theorem dX12_slipped_110 : decode cX12_slipped 110 = .ok (.iload 8, 2) := by decide +kernel
theorem dX12_slipped_112 : decode cX12_slipped 112 = .ok (.if_icmp .le 7, 3) := by decide +kernel
theorem dX12_slipped_115 : decode cX12_slipped 115 = .ok (.iconst 1, 1) := by decide +kernel
theorem dX12_slipped_116 : decode cX12_slipped 116 = .ok (.goto 4, 3) := by decide +kernel
theorem dX12_slipped_119 : decode cX12_slipped 119 = .ok (.iconst 2, 1) := by decide +kernel
theorem dX12_slipped_120 : decode cX12_slipped 120 = .ok (.ireturn, 1) := by decide +kernel
theorem dX12_changes_0 : decode cX12_changes 0 = .ok (.iconst 0, 1) := by decide +kernel
theorem dX12_changes_1 : decode cX12_changes 1 = .ok (.istore_n 1, 1) := by decide +kernel
theorem dX12_changes_2 : decode cX12_changes 2 = .ok (.iload_n 1, 1) := by decide +kernel
theorem dX12_changes_3 : decode cX12_changes 3 = .ok (.bipush 8, 2) := by decide +kernel
theorem dX12_changes_5 : decode cX12_changes 5 = .ok (.if_icmp .ge 16, 3) := by decide +kernel
theorem dX12_changes_8 : decode cX12_changes 8 = .ok (.aload_n 0, 1) := by decide +kernel
theorem dX12_changes_9 : decode cX12_changes 9 = .ok (.getfield 115, 3) := by decide +kernel
theorem dX12_changes_12 : decode cX12_changes 12 = .ok (.iload_n 1, 1) := by decide +kernel
theorem dX12_changes_13 : decode cX12_changes 13 = .ok (.iconst 0, 1) := by decide +kernel
theorem dX12_changes_14 : decode cX12_changes 14 = .ok (.bastore, 1) := by decide +kernel
theorem dX12_changes_15 : decode cX12_changes 15 = .ok (.iinc 1 1, 3) := by decide +kernel
theorem dX12_changes_18 : decode cX12_changes 18 = .ok (.goto (-16), 3) := by decide +kernel
theorem dX12_changes_21 : decode cX12_changes 21 = .ok (.return_, 1) := by decide +kernel
theorem dX12_isOut_0 : decode cX12_isOut 0 = .ok (.iload_n 0, 1) := by decide +kernel
theorem dX12_isOut_1 : decode cX12_isOut 1 = .ok (.i2l, 1) := by decide +kernel
theorem dX12_isOut_2 : decode cX12_isOut 2 = .ok (.lconst 0, 1) := by decide +kernel
theorem dX12_isOut_3 : decode cX12_isOut 3 = .ok (.ldc2_w 482, 3) := by decide +kernel
theorem dX12_isOut_6 : decode cX12_isOut 6 = .ok (.invokestatic 155, 3) := by decide +kernel
theorem dX12_isOut_9 : decode cX12_isOut 9 = .ok (.ireturn, 1) := by decide +kernel
theorem dX12_span_0 : decode cX12_span 0 = .ok (.aload_n 0, 1) := by decide +kernel
theorem dX12_span_1 : decode cX12_span 1 = .ok (.iload_n 1, 1) := by decide +kernel
theorem dX12_span_2 : decode cX12_span 2 = .ok (.invokevirtual 347, 3) := by decide +kernel
theorem dX12_span_5 : decode cX12_span 5 = .ok (.ifCond .eq 38, 3) := by decide +kernel
theorem dX12_span_8 : decode cX12_span 8 = .ok (.aload_n 0, 1) := by decide +kernel
theorem dX12_span_9 : decode cX12_span 9 = .ok (.iload_n 2, 1) := by decide +kernel
theorem dX12_span_10 : decode cX12_span 10 = .ok (.invokevirtual 344, 3) := by decide +kernel
theorem dX12_span_13 : decode cX12_span 13 = .ok (.ifCond .eq 30, 3) := by decide +kernel
theorem dX12_span_16 : decode cX12_span 16 = .ok (.iload_n 3, 1) := by decide +kernel
theorem dX12_span_17 : decode cX12_span 17 = .ok (.invokestatic 484, 3) := by decide +kernel
theorem dX12_span_20 : decode cX12_span 20 = .ok (.ifCond .eq 23, 3) := by decide +kernel
theorem dX12_span_23 : decode cX12_span 23 = .ok (.iload 4, 2) := by decide +kernel
theorem dX12_span_25 : decode cX12_span 25 = .ok (.i2l, 1) := by decide +kernel
theorem dX12_span_26 : decode cX12_span 26 = .ok (.lconst 0, 1) := by decide +kernel
theorem dX12_span_27 : decode cX12_span 27 = .ok (.lconst 1, 1) := by decide +kernel
theorem dX12_span_28 : decode cX12_span 28 = .ok (.invokestatic 155, 3) := by decide +kernel
theorem dX12_span_31 : decode cX12_span 31 = .ok (.ifCond .eq 12, 3) := by decide +kernel
theorem dX12_span_34 : decode cX12_span 34 = .ok (.aload_n 0, 1) := by decide +kernel
theorem dX12_span_35 : decode cX12_span 35 = .ok (.iload_n 1, 1) := by decide +kernel
theorem dX12_span_36 : decode cX12_span 36 = .ok (.iload_n 3, 1) := by decide +kernel
theorem dX12_span_37 : decode cX12_span 37 = .ok (.invokevirtual 487, 3) := by decide +kernel
theorem dX12_span_40 : decode cX12_span 40 = .ok (.ifCond .ne 7, 3) := by decide +kernel
theorem dX12_span_43 : decode cX12_span 43 = .ok (.sipush (-10000), 3) := by decide +kernel
theorem dX12_span_46 : decode cX12_span 46 = .ok (.ireturn, 1) := by decide +kernel
theorem dX12_span_47 : decode cX12_span 47 = .ok (.iload 4, 2) := by decide +kernel
theorem dX12_span_49 : decode cX12_span 49 = .ok (.ifCond .ne 12, 3) := by decide +kernel
theorem dX12_span_52 : decode cX12_span 52 = .ok (.aload_n 0, 1) := by decide +kernel
theorem dX12_span_53 : decode cX12_span 53 = .ok (.getfield 97, 3) := by decide +kernel
theorem dX12_span_56 : decode cX12_span 56 = .ok (.iload_n 2, 1) := by decide +kernel
theorem dX12_span_57 : decode cX12_span 57 = .ok (.iaload, 1) := by decide +kernel
theorem dX12_span_58 : decode cX12_span 58 = .ok (.goto 9, 3) := by decide +kernel
theorem dX12_span_61 : decode cX12_span 61 = .ok (.aload_n 0, 1) := by decide +kernel
theorem dX12_span_62 : decode cX12_span 62 = .ok (.getfield 100, 3) := by decide +kernel
theorem dX12_span_65 : decode cX12_span 65 = .ok (.iload_n 2, 1) := by decide +kernel
theorem dX12_span_66 : decode cX12_span 66 = .ok (.iaload, 1) := by decide +kernel
theorem dX12_span_67 : decode cX12_span 67 = .ok (.ireturn, 1) := by decide +kernel
theorem dX12_isBent_0 : decode cX12_isBent 0 = .ok (.aload_n 0, 1) := by decide +kernel
theorem dX12_isBent_1 : decode cX12_isBent 1 = .ok (.iload_n 1, 1) := by decide +kernel
theorem dX12_isBent_2 : decode cX12_isBent 2 = .ok (.invokevirtual 347, 3) := by decide +kernel
theorem dX12_isBent_5 : decode cX12_isBent 5 = .ok (.ifCond .eq 10, 3) := by decide +kernel
theorem dX12_isBent_8 : decode cX12_isBent 8 = .ok (.iload_n 2, 1) := by decide +kernel
theorem dX12_isBent_9 : decode cX12_isBent 9 = .ok (.invokestatic 484, 3) := by decide +kernel
theorem dX12_isBent_12 : decode cX12_isBent 12 = .ok (.ifCond .ne 5, 3) := by decide +kernel
theorem dX12_isBent_15 : decode cX12_isBent 15 = .ok (.iconst 0, 1) := by decide +kernel
theorem dX12_isBent_16 : decode cX12_isBent 16 = .ok (.ireturn, 1) := by decide +kernel
theorem dX12_isBent_17 : decode cX12_isBent 17 = .ok (.aload_n 0, 1) := by decide +kernel
theorem dX12_isBent_18 : decode cX12_isBent 18 = .ok (.getfield 115, 3) := by decide +kernel
theorem dX12_isBent_21 : decode cX12_isBent 21 = .ok (.iload_n 1, 1) := by decide +kernel
theorem dX12_isBent_22 : decode cX12_isBent 22 = .ok (.baload, 1) := by decide +kernel
theorem dX12_isBent_23 : decode cX12_isBent 23 = .ok (.ifCond .eq 13, 3) := by decide +kernel
theorem dX12_isBent_26 : decode cX12_isBent 26 = .ok (.aload_n 0, 1) := by decide +kernel
theorem dX12_isBent_27 : decode cX12_isBent 27 = .ok (.getfield 112, 3) := by decide +kernel
theorem dX12_isBent_30 : decode cX12_isBent 30 = .ok (.iload_n 1, 1) := by decide +kernel
theorem dX12_isBent_31 : decode cX12_isBent 31 = .ok (.iaload, 1) := by decide +kernel
theorem dX12_isBent_32 : decode cX12_isBent 32 = .ok (.iload_n 2, 1) := by decide +kernel
end
section
theorem dX12_isBent_33 : decode cX12_isBent 33 = .ok (.if_icmp .eq 43, 3) := by decide +kernel
theorem dX12_isBent_36 : decode cX12_isBent 36 = .ok (.aload_n 0, 1) := by decide +kernel
theorem dX12_isBent_37 : decode cX12_isBent 37 = .ok (.getfield 118, 3) := by decide +kernel
theorem dX12_isBent_40 : decode cX12_isBent 40 = .ok (.iload_n 1, 1) := by decide +kernel
theorem dX12_isBent_41 : decode cX12_isBent 41 = .ok (.aload_n 0, 1) := by decide +kernel
theorem dX12_isBent_42 : decode cX12_isBent 42 = .ok (.iload_n 1, 1) := by decide +kernel
theorem dX12_isBent_43 : decode cX12_isBent 43 = .ok (.iload_n 2, 1) := by decide +kernel
theorem dX12_isBent_44 : decode cX12_isBent 44 = .ok (.invokevirtual 487, 3) := by decide +kernel
theorem dX12_isBent_47 : decode cX12_isBent 47 = .ok (.bastore, 1) := by decide +kernel
theorem dX12_isBent_48 : decode cX12_isBent 48 = .ok (.aload_n 0, 1) := by decide +kernel
theorem dX12_isBent_49 : decode cX12_isBent 49 = .ok (.getfield 118, 3) := by decide +kernel
theorem dX12_isBent_52 : decode cX12_isBent 52 = .ok (.iload_n 1, 1) := by decide +kernel
theorem dX12_isBent_53 : decode cX12_isBent 53 = .ok (.baload, 1) := by decide +kernel
theorem dX12_isBent_54 : decode cX12_isBent 54 = .ok (.ifCond .eq 8, 3) := by decide +kernel
theorem dX12_isBent_57 : decode cX12_isBent 57 = .ok (.aload_n 0, 1) := by decide +kernel
theorem dX12_isBent_58 : decode cX12_isBent 58 = .ok (.iload_n 1, 1) := by decide +kernel
theorem dX12_isBent_59 : decode cX12_isBent 59 = .ok (.invokevirtual 508, 3) := by decide +kernel
theorem dX12_isBent_62 : decode cX12_isBent 62 = .ok (.aload_n 0, 1) := by decide +kernel
theorem dX12_isBent_63 : decode cX12_isBent 63 = .ok (.getfield 115, 3) := by decide +kernel
theorem dX12_isBent_66 : decode cX12_isBent 66 = .ok (.iload_n 1, 1) := by decide +kernel
theorem dX12_isBent_67 : decode cX12_isBent 67 = .ok (.iconst 1, 1) := by decide +kernel
theorem dX12_isBent_68 : decode cX12_isBent 68 = .ok (.bastore, 1) := by decide +kernel
theorem dX12_isBent_69 : decode cX12_isBent 69 = .ok (.aload_n 0, 1) := by decide +kernel
theorem dX12_isBent_70 : decode cX12_isBent 70 = .ok (.getfield 112, 3) := by decide +kernel
theorem dX12_isBent_73 : decode cX12_isBent 73 = .ok (.iload_n 1, 1) := by decide +kernel
theorem dX12_isBent_74 : decode cX12_isBent 74 = .ok (.iload_n 2, 1) := by decide +kernel
theorem dX12_isBent_75 : decode cX12_isBent 75 = .ok (.iastore, 1) := by decide +kernel
theorem dX12_isBent_76 : decode cX12_isBent 76 = .ok (.aload_n 0, 1) := by decide +kernel
theorem dX12_isBent_77 : decode cX12_isBent 77 = .ok (.getfield 118, 3) := by decide +kernel
theorem dX12_isBent_80 : decode cX12_isBent 80 = .ok (.iload_n 1, 1) := by decide +kernel
theorem dX12_isBent_81 : decode cX12_isBent 81 = .ok (.baload, 1) := by decide +kernel
theorem dX12_isBent_82 : decode cX12_isBent 82 = .ok (.ireturn, 1) := by decide +kernel
theorem dX12_batten_0 : decode cX12_batten 0 = .ok (.iload_n 3, 1) := by decide +kernel
theorem dX12_batten_1 : decode cX12_batten 1 = .ok (.iconst (-1), 1) := by decide +kernel
theorem dX12_batten_2 : decode cX12_batten 2 = .ok (.if_icmp .eq 11, 3) := by decide +kernel
theorem dX12_batten_5 : decode cX12_batten 5 = .ok (.aload_n 0, 1) := by decide +kernel
theorem dX12_batten_6 : decode cX12_batten 6 = .ok (.iload_n 3, 1) := by decide +kernel
theorem dX12_batten_7 : decode cX12_batten 7 = .ok (.invokevirtual 344, 3) := by decide +kernel
theorem dX12_batten_10 : decode cX12_batten 10 = .ok (.ifCond .eq 12, 3) := by decide +kernel
theorem dX12_batten_13 : decode cX12_batten 13 = .ok (.aload_n 0, 1) := by decide +kernel
theorem dX12_batten_14 : decode cX12_batten 14 = .ok (.iload_n 1, 1) := by decide +kernel
theorem dX12_batten_15 : decode cX12_batten 15 = .ok (.iload_n 2, 1) := by decide +kernel
theorem dX12_batten_16 : decode cX12_batten 16 = .ok (.invokevirtual 511, 3) := by decide +kernel
theorem dX12_batten_19 : decode cX12_batten 19 = .ok (.ifCond .ne 7, 3) := by decide +kernel
theorem dX12_batten_22 : decode cX12_batten 22 = .ok (.ldc2_w 514, 3) := by decide +kernel
theorem dX12_batten_25 : decode cX12_batten 25 = .ok (.lreturn, 1) := by decide +kernel
theorem dX12_batten_26 : decode cX12_batten 26 = .ok (.iload_n 3, 1) := by decide +kernel
theorem dX12_batten_27 : decode cX12_batten 27 = .ok (.iconst (-1), 1) := by decide +kernel
theorem dX12_batten_28 : decode cX12_batten 28 = .ok (.if_icmp .ne 12, 3) := by decide +kernel
theorem dX12_batten_31 : decode cX12_batten 31 = .ok (.aload_n 0, 1) := by decide +kernel
theorem dX12_batten_32 : decode cX12_batten 32 = .ok (.getfield 124, 3) := by decide +kernel
theorem dX12_batten_35 : decode cX12_batten 35 = .ok (.iload_n 1, 1) := by decide +kernel
theorem dX12_batten_36 : decode cX12_batten 36 = .ok (.laload, 1) := by decide +kernel
theorem dX12_batten_37 : decode cX12_batten 37 = .ok (.goto 10, 3) := by decide +kernel
theorem dX12_batten_40 : decode cX12_batten 40 = .ok (.aload_n 0, 1) := by decide +kernel
theorem dX12_batten_41 : decode cX12_batten 41 = .ok (.iload_n 1, 1) := by decide +kernel
theorem dX12_batten_42 : decode cX12_batten 42 = .ok (.iload_n 3, 1) := by decide +kernel
theorem dX12_batten_43 : decode cX12_batten 43 = .ok (.invokevirtual 516, 3) := by decide +kernel
theorem dX12_batten_46 : decode cX12_batten 46 = .ok (.i2l, 1) := by decide +kernel
theorem dX12_batten_47 : decode cX12_batten 47 = .ok (.lreturn, 1) := by decide +kernel
theorem dX12_lost_0 : decode cX12_lost 0 = .ok (.iload_n 3, 1) := by decide +kernel
theorem dX12_lost_1 : decode cX12_lost 1 = .ok (.i2l, 1) := by decide +kernel
theorem dX12_lost_2 : decode cX12_lost 2 = .ok (.lconst 0, 1) := by decide +kernel
theorem dX12_lost_3 : decode cX12_lost 3 = .ok (.lconst 1, 1) := by decide +kernel
theorem dX12_lost_4 : decode cX12_lost 4 = .ok (.invokestatic 155, 3) := by decide +kernel
theorem dX12_lost_7 : decode cX12_lost 7 = .ok (.ifCond .eq 12, 3) := by decide +kernel
theorem dX12_lost_10 : decode cX12_lost 10 = .ok (.aload_n 0, 1) := by decide +kernel
theorem dX12_lost_11 : decode cX12_lost 11 = .ok (.iload_n 1, 1) := by decide +kernel
theorem dX12_lost_12 : decode cX12_lost 12 = .ok (.iload_n 2, 1) := by decide +kernel
theorem dX12_lost_13 : decode cX12_lost 13 = .ok (.invokevirtual 511, 3) := by decide +kernel
theorem dX12_lost_16 : decode cX12_lost 16 = .ok (.ifCond .ne 5, 3) := by decide +kernel
theorem dX12_lost_19 : decode cX12_lost 19 = .ok (.iconst (-1), 1) := by decide +kernel
theorem dX12_lost_20 : decode cX12_lost 20 = .ok (.ireturn, 1) := by decide +kernel
theorem dX12_lost_21 : decode cX12_lost 21 = .ok (.aload_n 0, 1) := by decide +kernel
theorem dX12_lost_22 : decode cX12_lost 22 = .ok (.iload_n 1, 1) := by decide +kernel
theorem dX12_lost_23 : decode cX12_lost 23 = .ok (.iload_n 3, 1) := by decide +kernel
theorem dX12_lost_24 : decode cX12_lost 24 = .ok (.ifCond .ne 7, 3) := by decide +kernel
theorem dX12_lost_27 : decode cX12_lost 27 = .ok (.iconst 0, 1) := by decide +kernel
theorem dX12_lost_28 : decode cX12_lost 28 = .ok (.goto 9, 3) := by decide +kernel
theorem dX12_lost_31 : decode cX12_lost 31 = .ok (.aload_n 0, 1) := by decide +kernel
theorem dX12_lost_32 : decode cX12_lost 32 = .ok (.getfield 338, 3) := by decide +kernel
theorem dX12_lost_35 : decode cX12_lost 35 = .ok (.iconst 1, 1) := by decide +kernel
theorem dX12_lost_36 : decode cX12_lost 36 = .ok (.isub, 1) := by decide +kernel
theorem dX12_lost_37 : decode cX12_lost 37 = .ok (.invokevirtual 516, 3) := by decide +kernel
theorem dX12_lost_40 : decode cX12_lost 40 = .ok (.istore 4, 2) := by decide +kernel
theorem dX12_lost_42 : decode cX12_lost 42 = .ok (.aload_n 0, 1) := by decide +kernel
theorem dX12_lost_43 : decode cX12_lost 43 = .ok (.iload_n 1, 1) := by decide +kernel
theorem dX12_lost_44 : decode cX12_lost 44 = .ok (.iload_n 3, 1) := by decide +kernel
theorem dX12_lost_45 : decode cX12_lost 45 = .ok (.ifCond .ne 7, 3) := by decide +kernel
theorem dX12_lost_48 : decode cX12_lost 48 = .ok (.iconst 1, 1) := by decide +kernel
theorem dX12_lost_49 : decode cX12_lost 49 = .ok (.goto 9, 3) := by decide +kernel
theorem dX12_lost_52 : decode cX12_lost 52 = .ok (.aload_n 0, 1) := by decide +kernel
theorem dX12_lost_53 : decode cX12_lost 53 = .ok (.getfield 338, 3) := by decide +kernel
theorem dX12_lost_56 : decode cX12_lost 56 = .ok (.iconst 2, 1) := by decide +kernel
theorem dX12_lost_57 : decode cX12_lost 57 = .ok (.isub, 1) := by decide +kernel
theorem dX12_lost_58 : decode cX12_lost 58 = .ok (.invokevirtual 516, 3) := by decide +kernel
theorem dX12_lost_61 : decode cX12_lost 61 = .ok (.istore 5, 2) := by decide +kernel
theorem dX12_lost_63 : decode cX12_lost 63 = .ok (.iload 4, 2) := by decide +kernel
theorem dX12_lost_65 : decode cX12_lost 65 = .ok (.iload 5, 2) := by decide +kernel
theorem dX12_lost_67 : decode cX12_lost 67 = .ok (.if_icmp .lt 6, 3) := by decide +kernel
theorem dX12_lost_70 : decode cX12_lost 70 = .ok (.bipush (-2), 2) := by decide +kernel
theorem dX12_lost_72 : decode cX12_lost 72 = .ok (.ireturn, 1) := by decide +kernel
theorem dX12_lost_73 : decode cX12_lost 73 = .ok (.iload 4, 2) := by decide +kernel
theorem dX12_lost_75 : decode cX12_lost 75 = .ok (.ifCond .gt 5, 3) := by decide +kernel
theorem dX12_lost_78 : decode cX12_lost 78 = .ok (.iconst 0, 1) := by decide +kernel
theorem dX12_lost_79 : decode cX12_lost 79 = .ok (.ireturn, 1) := by decide +kernel
theorem dX12_lost_80 : decode cX12_lost 80 = .ok (.iload 5, 2) := by decide +kernel
theorem dX12_lost_82 : decode cX12_lost 82 = .ok (.iload 4, 2) := by decide +kernel
theorem dX12_lost_84 : decode cX12_lost 84 = .ok (.isub, 1) := by decide +kernel
theorem dX12_lost_85 : decode cX12_lost 85 = .ok (.istore 6, 2) := by decide +kernel
theorem dX12_lost_87 : decode cX12_lost 87 = .ok (.iload 4, 2) := by decide +kernel
theorem dX12_lost_89 : decode cX12_lost 89 = .ok (.iload 6, 2) := by decide +kernel
theorem dX12_lost_91 : decode cX12_lost 91 = .ok (.iadd, 1) := by decide +kernel
theorem dX12_lost_92 : decode cX12_lost 92 = .ok (.iconst 1, 1) := by decide +kernel
theorem dX12_lost_93 : decode cX12_lost 93 = .ok (.isub, 1) := by decide +kernel
theorem dX12_lost_94 : decode cX12_lost 94 = .ok (.iload 6, 2) := by decide +kernel
theorem dX12_lost_96 : decode cX12_lost 96 = .ok (.idiv, 1) := by decide +kernel
theorem dX12_lost_97 : decode cX12_lost 97 = .ok (.ireturn, 1) := by decide +kernel
theorem dX12_size_0 : decode cX12_size 0 = .ok (.aload_n 0, 1) := by decide +kernel
theorem dX12_size_1 : decode cX12_size 1 = .ok (.iload_n 1, 1) := by decide +kernel
theorem dX12_size_2 : decode cX12_size 2 = .ok (.iload_n 2, 1) := by decide +kernel
theorem dX12_size_3 : decode cX12_size 3 = .ok (.iload_n 3, 1) := by decide +kernel
theorem dX12_size_4 : decode cX12_size 4 = .ok (.invokevirtual 402, 3) := by decide +kernel
theorem dX12_size_7 : decode cX12_size 7 = .ok (.ifCond .eq 16, 3) := by decide +kernel
theorem dX12_size_10 : decode cX12_size 10 = .ok (.iload 4, 2) := by decide +kernel
theorem dX12_size_12 : decode cX12_size 12 = .ok (.i2l, 1) := by decide +kernel
theorem dX12_size_13 : decode cX12_size 13 = .ok (.lconst 0, 1) := by decide +kernel
theorem dX12_size_14 : decode cX12_size 14 = .ok (.ldc2_w 519, 3) := by decide +kernel
theorem dX12_size_17 : decode cX12_size 17 = .ok (.invokestatic 155, 3) := by decide +kernel
theorem dX12_size_20 : decode cX12_size 20 = .ok (.ifCond .ne 5, 3) := by decide +kernel
theorem dX12_size_23 : decode cX12_size 23 = .ok (.iconst 0, 1) := by decide +kernel
theorem dX12_size_24 : decode cX12_size 24 = .ok (.ireturn, 1) := by decide +kernel
theorem dX12_size_25 : decode cX12_size 25 = .ok (.iload_n 1, 1) := by decide +kernel
theorem dX12_size_26 : decode cX12_size 26 = .ok (.iload_n 2, 1) := by decide +kernel
theorem dX12_size_27 : decode cX12_size 27 = .ok (.iload_n 3, 1) := by decide +kernel
theorem dX12_size_28 : decode cX12_size 28 = .ok (.invokestatic 350, 3) := by decide +kernel
theorem dX12_size_31 : decode cX12_size 31 = .ok (.istore 5, 2) := by decide +kernel
theorem dX12_size_33 : decode cX12_size 33 = .ok (.aload_n 0, 1) := by decide +kernel
theorem dX12_size_34 : decode cX12_size 34 = .ok (.getfield 372, 3) := by decide +kernel
theorem dX12_size_37 : decode cX12_size 37 = .ok (.aload_n 0, 1) := by decide +kernel
theorem dX12_size_38 : decode cX12_size 38 = .ok (.getfield 79, 3) := by decide +kernel
theorem dX12_size_41 : decode cX12_size 41 = .ok (.iload 5, 2) := by decide +kernel
theorem dX12_size_43 : decode cX12_size 43 = .ok (.iaload, 1) := by decide +kernel
theorem dX12_size_44 : decode cX12_size 44 = .ok (.ifCond .le 7, 3) := by decide +kernel
theorem dX12_size_47 : decode cX12_size 47 = .ok (.iconst 1, 1) := by decide +kernel
theorem dX12_size_48 : decode cX12_size 48 = .ok (.goto 4, 3) := by decide +kernel
theorem dX12_size_51 : decode cX12_size 51 = .ok (.iconst 0, 1) := by decide +kernel
theorem dX12_size_52 : decode cX12_size 52 = .ok (.isub, 1) := by decide +kernel
theorem dX12_size_53 : decode cX12_size 53 = .ok (.istore 6, 2) := by decide +kernel
theorem dX12_size_55 : decode cX12_size 55 = .ok (.iload 4, 2) := by decide +kernel
theorem dX12_size_57 : decode cX12_size 57 = .ok (.ifCond .le 12, 3) := by decide +kernel
theorem dX12_size_60 : decode cX12_size 60 = .ok (.iload 6, 2) := by decide +kernel
theorem dX12_size_62 : decode cX12_size 62 = .ok (.bipush 60, 2) := by decide +kernel
theorem dX12_size_64 : decode cX12_size 64 = .ok (.if_icmp .ne 5, 3) := by decide +kernel
theorem dX12_size_67 : decode cX12_size 67 = .ok (.iconst 0, 1) := by decide +kernel
theorem dX12_size_68 : decode cX12_size 68 = .ok (.ireturn, 1) := by decide +kernel
theorem dX12_size_69 : decode cX12_size 69 = .ok (.aload_n 0, 1) := by decide +kernel
theorem dX12_size_70 : decode cX12_size 70 = .ok (.iload 6, 2) := by decide +kernel
theorem dX12_size_72 : decode cX12_size 72 = .ok (.iload 4, 2) := by decide +kernel
theorem dX12_size_74 : decode cX12_size 74 = .ok (.ifCond .le 7, 3) := by decide +kernel
theorem dX12_size_77 : decode cX12_size 77 = .ok (.iconst 1, 1) := by decide +kernel
theorem dX12_size_78 : decode cX12_size 78 = .ok (.goto 4, 3) := by decide +kernel
theorem dX12_size_81 : decode cX12_size 81 = .ok (.iconst 0, 1) := by decide +kernel
theorem dX12_size_82 : decode cX12_size 82 = .ok (.iadd, 1) := by decide +kernel
theorem dX12_size_83 : decode cX12_size 83 = .ok (.putfield 372, 3) := by decide +kernel
theorem dX12_size_86 : decode cX12_size 86 = .ok (.aload_n 0, 1) := by decide +kernel
theorem dX12_size_87 : decode cX12_size 87 = .ok (.getfield 79, 3) := by decide +kernel
theorem dX12_size_90 : decode cX12_size 90 = .ok (.iload 5, 2) := by decide +kernel
theorem dX12_size_92 : decode cX12_size 92 = .ok (.iload 4, 2) := by decide +kernel
theorem dX12_size_94 : decode cX12_size 94 = .ok (.iastore, 1) := by decide +kernel
theorem dX12_size_95 : decode cX12_size 95 = .ok (.iconst 1, 1) := by decide +kernel
theorem dX12_size_96 : decode cX12_size 96 = .ok (.ireturn, 1) := by decide +kernel
theorem dX12_repairs_0 : decode cX12_repairs 0 = .ok (.aload_n 0, 1) := by decide +kernel
theorem dX12_repairs_1 : decode cX12_repairs 1 = .ok (.iload_n 1, 1) := by decide +kernel
theorem dX12_repairs_2 : decode cX12_repairs 2 = .ok (.invokevirtual 347, 3) := by decide +kernel
theorem dX12_repairs_5 : decode cX12_repairs 5 = .ok (.ifCond .eq 27, 3) := by decide +kernel
theorem dX12_repairs_8 : decode cX12_repairs 8 = .ok (.iload_n 2, 1) := by decide +kernel
theorem dX12_repairs_9 : decode cX12_repairs 9 = .ok (.i2l, 1) := by decide +kernel
theorem dX12_repairs_10 : decode cX12_repairs 10 = .ok (.lconst 0, 1) := by decide +kernel
theorem dX12_repairs_11 : decode cX12_repairs 11 = .ok (.ldc2_w 519, 3) := by decide +kernel
theorem dX12_repairs_14 : decode cX12_repairs 14 = .ok (.invokestatic 155, 3) := by decide +kernel
theorem dX12_repairs_17 : decode cX12_repairs 17 = .ok (.ifCond .eq 15, 3) := by decide +kernel
theorem dX12_repairs_20 : decode cX12_repairs 20 = .ok (.iload_n 3, 1) := by decide +kernel
theorem dX12_repairs_21 : decode cX12_repairs 21 = .ok (.i2l, 1) := by decide +kernel
theorem dX12_repairs_22 : decode cX12_repairs 22 = .ok (.lconst 0, 1) := by decide +kernel
theorem dX12_repairs_23 : decode cX12_repairs 23 = .ok (.ldc2_w 363, 3) := by decide +kernel
theorem dX12_repairs_26 : decode cX12_repairs 26 = .ok (.invokestatic 155, 3) := by decide +kernel
theorem dX12_repairs_29 : decode cX12_repairs 29 = .ok (.ifCond .ne 7, 3) := by decide +kernel
theorem dX12_repairs_32 : decode cX12_repairs 32 = .ok (.ldc2_w 492, 3) := by decide +kernel
theorem dX12_repairs_35 : decode cX12_repairs 35 = .ok (.lreturn, 1) := by decide +kernel
theorem dX12_repairs_36 : decode cX12_repairs 36 = .ok (.aload_n 0, 1) := by decide +kernel
theorem dX12_repairs_37 : decode cX12_repairs 37 = .ok (.invokevirtual 521, 3) := by decide +kernel
theorem dX12_repairs_40 : decode cX12_repairs 40 = .ok (.istore 4, 2) := by decide +kernel
theorem dX12_repairs_42 : decode cX12_repairs 42 = .ok (.iconst 0, 1) := by decide +kernel
theorem dX12_repairs_43 : decode cX12_repairs 43 = .ok (.istore 5, 2) := by decide +kernel
theorem dX12_repairs_45 : decode cX12_repairs 45 = .ok (.iconst 0, 1) := by decide +kernel
theorem dX12_repairs_46 : decode cX12_repairs 46 = .ok (.istore 6, 2) := by decide +kernel
theorem dX12_repairs_48 : decode cX12_repairs 48 = .ok (.iconst 0, 1) := by decide +kernel
theorem dX12_repairs_49 : decode cX12_repairs 49 = .ok (.istore 7, 2) := by decide +kernel
theorem dX12_repairs_51 : decode cX12_repairs 51 = .ok (.iconst 0, 1) := by decide +kernel
theorem dX12_repairs_52 : decode cX12_repairs 52 = .ok (.istore 8, 2) := by decide +kernel
theorem dX12_repairs_54 : decode cX12_repairs 54 = .ok (.iload 8, 2) := by decide +kernel
theorem dX12_repairs_56 : decode cX12_repairs 56 = .ok (.aload_n 0, 1) := by decide +kernel
theorem dX12_repairs_57 : decode cX12_repairs 57 = .ok (.getfield 338, 3) := by decide +kernel
theorem dX12_repairs_60 : decode cX12_repairs 60 = .ok (.if_icmp .ge 137, 3) := by decide +kernel
theorem dX12_repairs_63 : decode cX12_repairs 63 = .ok (.iconst 0, 1) := by decide +kernel
theorem dX12_repairs_64 : decode cX12_repairs 64 = .ok (.istore 9, 2) := by decide +kernel
theorem dX12_repairs_66 : decode cX12_repairs 66 = .ok (.iload 9, 2) := by decide +kernel
theorem dX12_repairs_68 : decode cX12_repairs 68 = .ok (.aload_n 0, 1) := by decide +kernel
theorem dX12_repairs_69 : decode cX12_repairs 69 = .ok (.getfield 341, 3) := by decide +kernel
theorem dX12_repairs_72 : decode cX12_repairs 72 = .ok (.if_icmp .ge 119, 3) := by decide +kernel
theorem dX12_repairs_75 : decode cX12_repairs 75 = .ok (.iconst 0, 1) := by decide +kernel
theorem dX12_repairs_76 : decode cX12_repairs 76 = .ok (.istore 10, 2) := by decide +kernel
theorem dX12_repairs_78 : decode cX12_repairs 78 = .ok (.iload 10, 2) := by decide +kernel
theorem dX12_repairs_80 : decode cX12_repairs 80 = .ok (.iconst 2, 1) := by decide +kernel
theorem dX12_repairs_81 : decode cX12_repairs 81 = .ok (.if_icmp .ge 104, 3) := by decide +kernel
theorem dX12_repairs_84 : decode cX12_repairs 84 = .ok (.aload_n 0, 1) := by decide +kernel
theorem dX12_repairs_85 : decode cX12_repairs 85 = .ok (.getfield 79, 3) := by decide +kernel
theorem dX12_repairs_88 : decode cX12_repairs 88 = .ok (.iload 8, 2) := by decide +kernel
theorem dX12_repairs_90 : decode cX12_repairs 90 = .ok (.iload 9, 2) := by decide +kernel
theorem dX12_repairs_92 : decode cX12_repairs 92 = .ok (.iload 10, 2) := by decide +kernel
theorem dX12_repairs_94 : decode cX12_repairs 94 = .ok (.invokestatic 350, 3) := by decide +kernel
theorem dX12_repairs_97 : decode cX12_repairs 97 = .ok (.iaload, 1) := by decide +kernel
theorem dX12_repairs_98 : decode cX12_repairs 98 = .ok (.istore 11, 2) := by decide +kernel
theorem dX12_repairs_100 : decode cX12_repairs 100 = .ok (.iload 11, 2) := by decide +kernel
theorem dX12_repairs_102 : decode cX12_repairs 102 = .ok (.ifCond .ne 6, 3) := by decide +kernel
theorem dX12_repairs_105 : decode cX12_repairs 105 = .ok (.goto 74, 3) := by decide +kernel
theorem dX12_repairs_108 : decode cX12_repairs 108 = .ok (.iload 11, 2) := by decide +kernel
theorem dX12_repairs_110 : decode cX12_repairs 110 = .ok (.iload 4, 2) := by decide +kernel
theorem dX12_repairs_112 : decode cX12_repairs 112 = .ok (.isub, 1) := by decide +kernel
theorem dX12_repairs_113 : decode cX12_repairs 113 = .ok (.invokestatic 443, 3) := by decide +kernel
theorem dX12_repairs_116 : decode cX12_repairs 116 = .ok (.iload_n 2, 1) := by decide +kernel
theorem dX12_repairs_117 : decode cX12_repairs 117 = .ok (.if_icmp .le 7, 3) := by decide +kernel
theorem dX12_repairs_120 : decode cX12_repairs 120 = .ok (.iconst 1, 1) := by decide +kernel
theorem dX12_repairs_121 : decode cX12_repairs 121 = .ok (.goto 4, 3) := by decide +kernel
theorem dX12_repairs_124 : decode cX12_repairs 124 = .ok (.iconst 0, 1) := by decide +kernel
theorem dX12_repairs_125 : decode cX12_repairs 125 = .ok (.istore 12, 2) := by decide +kernel
theorem dX12_repairs_127 : decode cX12_repairs 127 = .ok (.iload 5, 2) := by decide +kernel
theorem dX12_repairs_129 : decode cX12_repairs 129 = .ok (.iload 12, 2) := by decide +kernel
theorem dX12_repairs_131 : decode cX12_repairs 131 = .ok (.ifCond .eq 7, 3) := by decide +kernel
theorem dX12_repairs_134 : decode cX12_repairs 134 = .ok (.iconst 1, 1) := by decide +kernel
theorem dX12_repairs_135 : decode cX12_repairs 135 = .ok (.goto 4, 3) := by decide +kernel
theorem dX12_repairs_138 : decode cX12_repairs 138 = .ok (.iconst 0, 1) := by decide +kernel
theorem dX12_repairs_139 : decode cX12_repairs 139 = .ok (.iadd, 1) := by decide +kernel
theorem dX12_repairs_140 : decode cX12_repairs 140 = .ok (.istore 5, 2) := by decide +kernel
theorem dX12_repairs_142 : decode cX12_repairs 142 = .ok (.iload 6, 2) := by decide +kernel
theorem dX12_repairs_144 : decode cX12_repairs 144 = .ok (.iload 9, 2) := by decide +kernel
theorem dX12_repairs_146 : decode cX12_repairs 146 = .ok (.iload_n 1, 1) := by decide +kernel
theorem dX12_repairs_147 : decode cX12_repairs 147 = .ok (.if_icmp .ne 7, 3) := by decide +kernel
theorem dX12_repairs_150 : decode cX12_repairs 150 = .ok (.iconst 1, 1) := by decide +kernel
theorem dX12_repairs_151 : decode cX12_repairs 151 = .ok (.goto 4, 3) := by decide +kernel
theorem dX12_repairs_154 : decode cX12_repairs 154 = .ok (.iconst 0, 1) := by decide +kernel
theorem dX12_repairs_155 : decode cX12_repairs 155 = .ok (.iadd, 1) := by decide +kernel
theorem dX12_repairs_156 : decode cX12_repairs 156 = .ok (.istore 6, 2) := by decide +kernel
theorem dX12_repairs_158 : decode cX12_repairs 158 = .ok (.iload 7, 2) := by decide +kernel
theorem dX12_repairs_160 : decode cX12_repairs 160 = .ok (.iload 12, 2) := by decide +kernel
theorem dX12_repairs_162 : decode cX12_repairs 162 = .ok (.ifCond .eq 13, 3) := by decide +kernel
theorem dX12_repairs_165 : decode cX12_repairs 165 = .ok (.iload 9, 2) := by decide +kernel
theorem dX12_repairs_167 : decode cX12_repairs 167 = .ok (.iload_n 1, 1) := by decide +kernel
theorem dX12_repairs_168 : decode cX12_repairs 168 = .ok (.if_icmp .ne 7, 3) := by decide +kernel
theorem dX12_repairs_171 : decode cX12_repairs 171 = .ok (.iconst 1, 1) := by decide +kernel
theorem dX12_repairs_172 : decode cX12_repairs 172 = .ok (.goto 4, 3) := by decide +kernel
theorem dX12_repairs_175 : decode cX12_repairs 175 = .ok (.iconst 0, 1) := by decide +kernel
theorem dX12_repairs_176 : decode cX12_repairs 176 = .ok (.iadd, 1) := by decide +kernel
theorem dX12_repairs_177 : decode cX12_repairs 177 = .ok (.istore 7, 2) := by decide +kernel
theorem dX12_repairs_179 : decode cX12_repairs 179 = .ok (.iinc 10 1, 3) := by decide +kernel
theorem dX12_repairs_182 : decode cX12_repairs 182 = .ok (.goto (-104), 3) := by decide +kernel
theorem dX12_repairs_185 : decode cX12_repairs 185 = .ok (.iinc 9 1, 3) := by decide +kernel
theorem dX12_repairs_188 : decode cX12_repairs 188 = .ok (.goto (-122), 3) := by decide +kernel
theorem dX12_repairs_191 : decode cX12_repairs 191 = .ok (.iinc 8 1, 3) := by decide +kernel
theorem dX12_repairs_194 : decode cX12_repairs 194 = .ok (.goto (-140), 3) := by decide +kernel
theorem dX12_repairs_197 : decode cX12_repairs 197 = .ok (.iload_n 3, 1) := by decide +kernel
theorem dX12_repairs_198 : decode cX12_repairs 198 = .ok (.iconst 2, 1) := by decide +kernel
theorem dX12_repairs_199 : decode cX12_repairs 199 = .ok (.if_icmp .ge 17, 3) := by decide +kernel
theorem dX12_repairs_202 : decode cX12_repairs 202 = .ok (.iload_n 3, 1) := by decide +kernel
theorem dX12_repairs_203 : decode cX12_repairs 203 = .ok (.ifCond .ne 9, 3) := by decide +kernel
theorem dX12_repairs_206 : decode cX12_repairs 206 = .ok (.iload 7, 2) := by decide +kernel
theorem dX12_repairs_208 : decode cX12_repairs 208 = .ok (.i2l, 1) := by decide +kernel
theorem dX12_repairs_209 : decode cX12_repairs 209 = .ok (.goto 6, 3) := by decide +kernel
theorem dX12_repairs_212 : decode cX12_repairs 212 = .ok (.iload 6, 2) := by decide +kernel
theorem dX12_repairs_214 : decode cX12_repairs 214 = .ok (.i2l, 1) := by decide +kernel
theorem dX12_repairs_215 : decode cX12_repairs 215 = .ok (.lreturn, 1) := by decide +kernel
theorem dX12_repairs_216 : decode cX12_repairs 216 = .ok (.lconst 0, 1) := by decide +kernel
theorem dX12_repairs_217 : decode cX12_repairs 217 = .ok (.lstore 8, 2) := by decide +kernel
theorem dX12_repairs_219 : decode cX12_repairs 219 = .ok (.iload 7, 2) := by decide +kernel
theorem dX12_repairs_221 : decode cX12_repairs 221 = .ok (.istore 10, 2) := by decide +kernel
theorem dX12_repairs_223 : decode cX12_repairs 223 = .ok (.iload 10, 2) := by decide +kernel
theorem dX12_repairs_225 : decode cX12_repairs 225 = .ok (.iload 6, 2) := by decide +kernel
theorem dX12_repairs_227 : decode cX12_repairs 227 = .ok (.if_icmp .gt 37, 3) := by decide +kernel
theorem dX12_repairs_230 : decode cX12_repairs 230 = .ok (.lload 8, 2) := by decide +kernel
theorem dX12_repairs_232 : decode cX12_repairs 232 = .ok (.iload 5, 2) := by decide +kernel
theorem dX12_repairs_234 : decode cX12_repairs 234 = .ok (.iload 10, 2) := by decide +kernel
theorem dX12_repairs_236 : decode cX12_repairs 236 = .ok (.invokestatic 524, 3) := by decide +kernel
theorem dX12_repairs_239 : decode cX12_repairs 239 = .ok (.aload_n 0, 1) := by decide +kernel
theorem dX12_repairs_240 : decode cX12_repairs 240 = .ok (.getfield 372, 3) := by decide +kernel
theorem dX12_repairs_243 : decode cX12_repairs 243 = .ok (.iload 5, 2) := by decide +kernel
theorem dX12_repairs_245 : decode cX12_repairs 245 = .ok (.isub, 1) := by decide +kernel
theorem dX12_repairs_246 : decode cX12_repairs 246 = .ok (.iload 6, 2) := by decide +kernel
theorem dX12_repairs_248 : decode cX12_repairs 248 = .ok (.iload 10, 2) := by decide +kernel
theorem dX12_repairs_250 : decode cX12_repairs 250 = .ok (.isub, 1) := by decide +kernel
theorem dX12_repairs_251 : decode cX12_repairs 251 = .ok (.invokestatic 524, 3) := by decide +kernel
theorem dX12_repairs_254 : decode cX12_repairs 254 = .ok (.lmul, 1) := by decide +kernel
theorem dX12_repairs_255 : decode cX12_repairs 255 = .ok (.ladd, 1) := by decide +kernel
theorem dX12_repairs_256 : decode cX12_repairs 256 = .ok (.lstore 8, 2) := by decide +kernel
theorem dX12_repairs_258 : decode cX12_repairs 258 = .ok (.iinc 10 1, 3) := by decide +kernel
theorem dX12_repairs_261 : decode cX12_repairs 261 = .ok (.goto (-38), 3) := by decide +kernel
theorem dX12_repairs_264 : decode cX12_repairs 264 = .ok (.aload_n 0, 1) := by decide +kernel
theorem dX12_repairs_265 : decode cX12_repairs 265 = .ok (.getfield 372, 3) := by decide +kernel
theorem dX12_repairs_268 : decode cX12_repairs 268 = .ok (.iload 6, 2) := by decide +kernel
theorem dX12_repairs_270 : decode cX12_repairs 270 = .ok (.invokestatic 524, 3) := by decide +kernel
theorem dX12_repairs_273 : decode cX12_repairs 273 = .ok (.lstore 10, 2) := by decide +kernel
theorem dX12_repairs_275 : decode cX12_repairs 275 = .ok (.lload 8, 2) := by decide +kernel
theorem dX12_repairs_277 : decode cX12_repairs 277 = .ok (.lload 10, 2) := by decide +kernel
theorem dX12_repairs_279 : decode cX12_repairs 279 = .ok (.invokestatic 528, 3) := by decide +kernel
theorem dX12_repairs_282 : decode cX12_repairs 282 = .ok (.lstore 12, 2) := by decide +kernel
theorem dX12_repairs_284 : decode cX12_repairs 284 = .ok (.iload_n 3, 1) := by decide +kernel
theorem dX12_repairs_285 : decode cX12_repairs 285 = .ok (.iconst 2, 1) := by decide +kernel
theorem dX12_repairs_286 : decode cX12_repairs 286 = .ok (.if_icmp .ne 11, 3) := by decide +kernel
theorem dX12_repairs_289 : decode cX12_repairs 289 = .ok (.lload 8, 2) := by decide +kernel
theorem dX12_repairs_291 : decode cX12_repairs 291 = .ok (.lload 12, 2) := by decide +kernel
theorem dX12_repairs_293 : decode cX12_repairs 293 = .ok (.ldiv, 1) := by decide +kernel
theorem dX12_repairs_294 : decode cX12_repairs 294 = .ok (.goto 8, 3) := by decide +kernel
theorem dX12_repairs_297 : decode cX12_repairs 297 = .ok (.lload 10, 2) := by decide +kernel
theorem dX12_repairs_299 : decode cX12_repairs 299 = .ok (.lload 12, 2) := by decide +kernel
theorem dX12_repairs_301 : decode cX12_repairs 301 = .ok (.ldiv, 1) := by decide +kernel
theorem dX12_repairs_302 : decode cX12_repairs 302 = .ok (.lreturn, 1) := by decide +kernel
theorem dX12_thole_0 : decode cX12_thole 0 = .ok (.aload_n 0, 1) := by decide +kernel
theorem dX12_thole_1 : decode cX12_thole 1 = .ok (.iload_n 1, 1) := by decide +kernel
theorem dX12_thole_2 : decode cX12_thole 2 = .ok (.invokevirtual 344, 3) := by decide +kernel
theorem dX12_thole_5 : decode cX12_thole 5 = .ok (.ifCond .eq 25, 3) := by decide +kernel
theorem dX12_thole_8 : decode cX12_thole 8 = .ok (.iload_n 2, 1) := by decide +kernel
theorem dX12_thole_9 : decode cX12_thole 9 = .ok (.i2l, 1) := by decide +kernel
theorem dX12_thole_10 : decode cX12_thole 10 = .ok (.lconst 0, 1) := by decide +kernel
theorem dX12_thole_11 : decode cX12_thole 11 = .ok (.lconst 1, 1) := by decide +kernel
theorem dX12_thole_12 : decode cX12_thole 12 = .ok (.invokestatic 155, 3) := by decide +kernel
theorem dX12_thole_15 : decode cX12_thole 15 = .ok (.ifCond .eq 15, 3) := by decide +kernel
theorem dX12_thole_18 : decode cX12_thole 18 = .ok (.iload_n 3, 1) := by decide +kernel
theorem dX12_thole_19 : decode cX12_thole 19 = .ok (.i2l, 1) := by decide +kernel
theorem dX12_thole_20 : decode cX12_thole 20 = .ok (.ldc2_w 492, 3) := by decide +kernel
theorem dX12_thole_23 : decode cX12_thole 23 = .ok (.lconst 1, 1) := by decide +kernel
theorem dX12_thole_24 : decode cX12_thole 24 = .ok (.invokestatic 155, 3) := by decide +kernel
theorem dX12_thole_27 : decode cX12_thole 27 = .ok (.ifCond .ne 5, 3) := by decide +kernel
theorem dX12_thole_30 : decode cX12_thole 30 = .ok (.iconst 0, 1) := by decide +kernel
theorem dX12_thole_31 : decode cX12_thole 31 = .ok (.ireturn, 1) := by decide +kernel
theorem dX12_thole_32 : decode cX12_thole 32 = .ok (.aload_n 0, 1) := by decide +kernel
theorem dX12_thole_33 : decode cX12_thole 33 = .ok (.getfield 135, 3) := by decide +kernel
theorem dX12_thole_36 : decode cX12_thole 36 = .ok (.iconst 2, 1) := by decide +kernel
theorem dX12_thole_37 : decode cX12_thole 37 = .ok (.iload_n 1, 1) := by decide +kernel
theorem dX12_thole_38 : decode cX12_thole 38 = .ok (.imul, 1) := by decide +kernel
theorem dX12_thole_39 : decode cX12_thole 39 = .ok (.iload_n 2, 1) := by decide +kernel
theorem dX12_thole_40 : decode cX12_thole 40 = .ok (.iadd, 1) := by decide +kernel
theorem dX12_thole_41 : decode cX12_thole 41 = .ok (.iload_n 3, 1) := by decide +kernel
theorem dX12_thole_42 : decode cX12_thole 42 = .ok (.iastore, 1) := by decide +kernel
theorem dX12_thole_43 : decode cX12_thole 43 = .ok (.iconst 1, 1) := by decide +kernel
theorem dX12_thole_44 : decode cX12_thole 44 = .ok (.ireturn, 1) := by decide +kernel
theorem dX12_oars_0 : decode cX12_oars 0 = .ok (.aload_n 0, 1) := by decide +kernel
theorem dX12_oars_1 : decode cX12_oars 1 = .ok (.getfield 338, 3) := by decide +kernel
theorem dX12_oars_4 : decode cX12_oars 4 = .ok (.ifCond .eq 15, 3) := by decide +kernel
theorem dX12_oars_7 : decode cX12_oars 7 = .ok (.iload_n 1, 1) := by decide +kernel
theorem dX12_oars_8 : decode cX12_oars 8 = .ok (.i2l, 1) := by decide +kernel
theorem dX12_oars_9 : decode cX12_oars 9 = .ok (.lconst 0, 1) := by decide +kernel
theorem dX12_oars_10 : decode cX12_oars 10 = .ok (.ldc2_w 363, 3) := by decide +kernel
theorem dX12_oars_13 : decode cX12_oars 13 = .ok (.invokestatic 155, 3) := by decide +kernel
theorem dX12_oars_16 : decode cX12_oars 16 = .ok (.ifCond .ne 5, 3) := by decide +kernel
theorem dX12_oars_19 : decode cX12_oars 19 = .ok (.iconst (-1), 1) := by decide +kernel
theorem dX12_oars_20 : decode cX12_oars 20 = .ok (.ireturn, 1) := by decide +kernel
theorem dX12_oars_21 : decode cX12_oars 21 = .ok (.iconst 0, 1) := by decide +kernel
theorem dX12_oars_22 : decode cX12_oars 22 = .ok (.istore_n 2, 1) := by decide +kernel
theorem dX12_oars_23 : decode cX12_oars 23 = .ok (.iconst 0, 1) := by decide +kernel
theorem dX12_oars_24 : decode cX12_oars 24 = .ok (.istore_n 3, 1) := by decide +kernel
theorem dX12_oars_25 : decode cX12_oars 25 = .ok (.iconst 0, 1) := by decide +kernel
theorem dX12_oars_26 : decode cX12_oars 26 = .ok (.istore 4, 2) := by decide +kernel
theorem dX12_oars_28 : decode cX12_oars 28 = .ok (.iload 4, 2) := by decide +kernel
theorem dX12_oars_30 : decode cX12_oars 30 = .ok (.aload_n 0, 1) := by decide +kernel
theorem dX12_oars_31 : decode cX12_oars 31 = .ok (.getfield 338, 3) := by decide +kernel
theorem dX12_oars_34 : decode cX12_oars 34 = .ok (.if_icmp .ge 67, 3) := by decide +kernel
theorem dX12_oars_37 : decode cX12_oars 37 = .ok (.iload_n 2, 1) := by decide +kernel
theorem dX12_oars_38 : decode cX12_oars 38 = .ok (.aload_n 0, 1) := by decide +kernel
theorem dX12_oars_39 : decode cX12_oars 39 = .ok (.iload 4, 2) := by decide +kernel
theorem dX12_oars_41 : decode cX12_oars 41 = .ok (.iconst 0, 1) := by decide +kernel
theorem dX12_oars_42 : decode cX12_oars 42 = .ok (.invokevirtual 532, 3) := by decide +kernel
theorem dX12_oars_45 : decode cX12_oars 45 = .ok (.iconst 1, 1) := by decide +kernel
theorem dX12_oars_46 : decode cX12_oars 46 = .ok (.if_icmp .ne 18, 3) := by decide +kernel
theorem dX12_oars_49 : decode cX12_oars 49 = .ok (.aload_n 0, 1) := by decide +kernel
theorem dX12_oars_50 : decode cX12_oars 50 = .ok (.iload 4, 2) := by decide +kernel
theorem dX12_oars_52 : decode cX12_oars 52 = .ok (.iconst 1, 1) := by decide +kernel
theorem dX12_oars_53 : decode cX12_oars 53 = .ok (.invokevirtual 532, 3) := by decide +kernel
theorem dX12_oars_56 : decode cX12_oars 56 = .ok (.iconst 1, 1) := by decide +kernel
theorem dX12_oars_57 : decode cX12_oars 57 = .ok (.if_icmp .ne 7, 3) := by decide +kernel
theorem dX12_oars_60 : decode cX12_oars 60 = .ok (.iconst 1, 1) := by decide +kernel
theorem dX12_oars_61 : decode cX12_oars 61 = .ok (.goto 4, 3) := by decide +kernel
theorem dX12_oars_64 : decode cX12_oars 64 = .ok (.iconst 0, 1) := by decide +kernel
theorem dX12_oars_65 : decode cX12_oars 65 = .ok (.iadd, 1) := by decide +kernel
theorem dX12_oars_66 : decode cX12_oars 66 = .ok (.istore_n 2, 1) := by decide +kernel
theorem dX12_oars_67 : decode cX12_oars 67 = .ok (.iload_n 3, 1) := by decide +kernel
theorem dX12_oars_68 : decode cX12_oars 68 = .ok (.aload_n 0, 1) := by decide +kernel
theorem dX12_oars_69 : decode cX12_oars 69 = .ok (.iload 4, 2) := by decide +kernel
theorem dX12_oars_71 : decode cX12_oars 71 = .ok (.iconst 0, 1) := by decide +kernel
theorem dX12_oars_72 : decode cX12_oars 72 = .ok (.invokevirtual 532, 3) := by decide +kernel
theorem dX12_oars_75 : decode cX12_oars 75 = .ok (.ifCond .eq 17, 3) := by decide +kernel
theorem dX12_oars_78 : decode cX12_oars 78 = .ok (.aload_n 0, 1) := by decide +kernel
theorem dX12_oars_79 : decode cX12_oars 79 = .ok (.iload 4, 2) := by decide +kernel
theorem dX12_oars_81 : decode cX12_oars 81 = .ok (.iconst 1, 1) := by decide +kernel
theorem dX12_oars_82 : decode cX12_oars 82 = .ok (.invokevirtual 532, 3) := by decide +kernel
theorem dX12_oars_85 : decode cX12_oars 85 = .ok (.ifCond .eq 7, 3) := by decide +kernel
theorem dX12_oars_88 : decode cX12_oars 88 = .ok (.iconst 1, 1) := by decide +kernel
theorem dX12_oars_89 : decode cX12_oars 89 = .ok (.goto 4, 3) := by decide +kernel
theorem dX12_oars_92 : decode cX12_oars 92 = .ok (.iconst 0, 1) := by decide +kernel
theorem dX12_oars_93 : decode cX12_oars 93 = .ok (.iadd, 1) := by decide +kernel
theorem dX12_oars_94 : decode cX12_oars 94 = .ok (.istore_n 3, 1) := by decide +kernel
theorem dX12_oars_95 : decode cX12_oars 95 = .ok (.iinc 4 1, 3) := by decide +kernel
theorem dX12_oars_98 : decode cX12_oars 98 = .ok (.goto (-70), 3) := by decide +kernel
theorem dX12_oars_101 : decode cX12_oars 101 = .ok (.iload_n 1, 1) := by decide +kernel
theorem dX12_oars_102 : decode cX12_oars 102 = .ok (.ifCond .ne 7, 3) := by decide +kernel
theorem dX12_oars_105 : decode cX12_oars 105 = .ok (.iload_n 2, 1) := by decide +kernel
theorem dX12_oars_106 : decode cX12_oars 106 = .ok (.goto 36, 3) := by decide +kernel
theorem dX12_oars_109 : decode cX12_oars 109 = .ok (.iload_n 1, 1) := by decide +kernel
theorem dX12_oars_110 : decode cX12_oars 110 = .ok (.iconst 1, 1) := by decide +kernel
theorem dX12_oars_111 : decode cX12_oars 111 = .ok (.if_icmp .ne 7, 3) := by decide +kernel
theorem dX12_oars_114 : decode cX12_oars 114 = .ok (.iload_n 3, 1) := by decide +kernel
theorem dX12_oars_115 : decode cX12_oars 115 = .ok (.goto 27, 3) := by decide +kernel
theorem dX12_oars_118 : decode cX12_oars 118 = .ok (.iload_n 1, 1) := by decide +kernel
theorem dX12_oars_119 : decode cX12_oars 119 = .ok (.iconst 2, 1) := by decide +kernel
theorem dX12_oars_120 : decode cX12_oars 120 = .ok (.if_icmp .ne 17, 3) := by decide +kernel
theorem dX12_oars_123 : decode cX12_oars 123 = .ok (.aload_n 0, 1) := by decide +kernel
theorem dX12_oars_124 : decode cX12_oars 124 = .ok (.iconst 0, 1) := by decide +kernel
theorem dX12_oars_125 : decode cX12_oars 125 = .ok (.invokevirtual 535, 3) := by decide +kernel
theorem dX12_oars_128 : decode cX12_oars 128 = .ok (.aload_n 0, 1) := by decide +kernel
theorem dX12_oars_129 : decode cX12_oars 129 = .ok (.iconst 1, 1) := by decide +kernel
theorem dX12_oars_130 : decode cX12_oars 130 = .ok (.invokevirtual 535, 3) := by decide +kernel
theorem dX12_oars_133 : decode cX12_oars 133 = .ok (.iadd, 1) := by decide +kernel
theorem dX12_oars_134 : decode cX12_oars 134 = .ok (.goto 8, 3) := by decide +kernel
theorem dX12_oars_137 : decode cX12_oars 137 = .ok (.aload_n 0, 1) := by decide +kernel
theorem dX12_oars_138 : decode cX12_oars 138 = .ok (.iconst 1, 1) := by decide +kernel
theorem dX12_oars_139 : decode cX12_oars 139 = .ok (.invokevirtual 535, 3) := by decide +kernel
theorem dX12_oars_142 : decode cX12_oars 142 = .ok (.ireturn, 1) := by decide +kernel
theorem dX12_pair_0 : decode cX12_pair 0 = .ok (.aload_n 0, 1) := by decide +kernel
theorem dX12_pair_1 : decode cX12_pair 1 = .ok (.iload_n 1, 1) := by decide +kernel
theorem dX12_pair_2 : decode cX12_pair 2 = .ok (.invokevirtual 344, 3) := by decide +kernel
theorem dX12_pair_5 : decode cX12_pair 5 = .ok (.ifCond .eq 13, 3) := by decide +kernel
theorem dX12_pair_8 : decode cX12_pair 8 = .ok (.iload_n 2, 1) := by decide +kernel
theorem dX12_pair_9 : decode cX12_pair 9 = .ok (.i2l, 1) := by decide +kernel
theorem dX12_pair_10 : decode cX12_pair 10 = .ok (.lconst 0, 1) := by decide +kernel
theorem dX12_pair_11 : decode cX12_pair 11 = .ok (.lconst 1, 1) := by decide +kernel
theorem dX12_pair_12 : decode cX12_pair 12 = .ok (.invokestatic 155, 3) := by decide +kernel
theorem dX12_pair_15 : decode cX12_pair 15 = .ok (.ifCond .ne 7, 3) := by decide +kernel
theorem dX12_pair_18 : decode cX12_pair 18 = .ok (.ldc2_w 492, 3) := by decide +kernel
theorem dX12_pair_21 : decode cX12_pair 21 = .ok (.lreturn, 1) := by decide +kernel
theorem dX12_pair_22 : decode cX12_pair 22 = .ok (.aload_n 0, 1) := by decide +kernel
theorem dX12_pair_23 : decode cX12_pair 23 = .ok (.iconst 1, 1) := by decide +kernel
theorem dX12_pair_24 : decode cX12_pair 24 = .ok (.invokevirtual 535, 3) := by decide +kernel
theorem dX12_pair_27 : decode cX12_pair 27 = .ok (.istore_n 3, 1) := by decide +kernel
theorem dX12_pair_28 : decode cX12_pair 28 = .ok (.iload_n 3, 1) := by decide +kernel
theorem dX12_pair_29 : decode cX12_pair 29 = .ok (.aload_n 0, 1) := by decide +kernel
theorem dX12_pair_30 : decode cX12_pair 30 = .ok (.iconst 0, 1) := by decide +kernel
theorem dX12_pair_31 : decode cX12_pair 31 = .ok (.invokevirtual 535, 3) := by decide +kernel
theorem dX12_pair_34 : decode cX12_pair 34 = .ok (.iadd, 1) := by decide +kernel
theorem dX12_pair_35 : decode cX12_pair 35 = .ok (.istore 4, 2) := by decide +kernel
theorem dX12_pair_37 : decode cX12_pair 37 = .ok (.iload 4, 2) := by decide +kernel
theorem dX12_pair_39 : decode cX12_pair 39 = .ok (.ifCond .ne 7, 3) := by decide +kernel
theorem dX12_pair_42 : decode cX12_pair 42 = .ok (.ldc2_w 538, 3) := by decide +kernel
theorem dX12_pair_45 : decode cX12_pair 45 = .ok (.lreturn, 1) := by decide +kernel
theorem dX12_pair_46 : decode cX12_pair 46 = .ok (.lconst 1, 1) := by decide +kernel
theorem dX12_pair_47 : decode cX12_pair 47 = .ok (.lstore 5, 2) := by decide +kernel
theorem dX12_pair_49 : decode cX12_pair 49 = .ok (.lconst 1, 1) := by decide +kernel
theorem dX12_pair_50 : decode cX12_pair 50 = .ok (.lstore 7, 2) := by decide +kernel
theorem dX12_pair_52 : decode cX12_pair 52 = .ok (.iconst 0, 1) := by decide +kernel
theorem dX12_pair_53 : decode cX12_pair 53 = .ok (.istore 9, 2) := by decide +kernel
theorem dX12_pair_55 : decode cX12_pair 55 = .ok (.iload 9, 2) := by decide +kernel
theorem dX12_pair_57 : decode cX12_pair 57 = .ok (.iconst 2, 1) := by decide +kernel
theorem dX12_pair_58 : decode cX12_pair 58 = .ok (.if_icmp .ge 62, 3) := by decide +kernel
theorem dX12_pair_61 : decode cX12_pair 61 = .ok (.aload_n 0, 1) := by decide +kernel
theorem dX12_pair_62 : decode cX12_pair 62 = .ok (.iload_n 1, 1) := by decide +kernel
theorem dX12_pair_63 : decode cX12_pair 63 = .ok (.iload 9, 2) := by decide +kernel
theorem dX12_pair_65 : decode cX12_pair 65 = .ok (.invokevirtual 532, 3) := by decide +kernel
theorem dX12_pair_68 : decode cX12_pair 68 = .ok (.istore 10, 2) := by decide +kernel
theorem dX12_pair_70 : decode cX12_pair 70 = .ok (.lload 5, 2) := by decide +kernel
theorem dX12_pair_72 : decode cX12_pair 72 = .ok (.iload 10, 2) := by decide +kernel
theorem dX12_pair_74 : decode cX12_pair 74 = .ok (.iconst 1, 1) := by decide +kernel
theorem dX12_pair_75 : decode cX12_pair 75 = .ok (.if_icmp .ne 7, 3) := by decide +kernel
theorem dX12_pair_78 : decode cX12_pair 78 = .ok (.lconst 1, 1) := by decide +kernel
theorem dX12_pair_79 : decode cX12_pair 79 = .ok (.goto 14, 3) := by decide +kernel
theorem dX12_pair_82 : decode cX12_pair 82 = .ok (.iload 10, 2) := by decide +kernel
theorem dX12_pair_84 : decode cX12_pair 84 = .ok (.ifCond .ne 7, 3) := by decide +kernel
theorem dX12_pair_87 : decode cX12_pair 87 = .ok (.lconst 0, 1) := by decide +kernel
theorem dX12_pair_88 : decode cX12_pair 88 = .ok (.goto 5, 3) := by decide +kernel
theorem dX12_pair_91 : decode cX12_pair 91 = .ok (.iload_n 3, 1) := by decide +kernel
theorem dX12_pair_92 : decode cX12_pair 92 = .ok (.i2l, 1) := by decide +kernel
theorem dX12_pair_93 : decode cX12_pair 93 = .ok (.lmul, 1) := by decide +kernel
theorem dX12_pair_94 : decode cX12_pair 94 = .ok (.lstore 5, 2) := by decide +kernel
theorem dX12_pair_96 : decode cX12_pair 96 = .ok (.lload 7, 2) := by decide +kernel
theorem dX12_pair_98 : decode cX12_pair 98 = .ok (.iload 10, 2) := by decide +kernel
theorem dX12_pair_100 : decode cX12_pair 100 = .ok (.iconst (-1), 1) := by decide +kernel
theorem dX12_pair_101 : decode cX12_pair 101 = .ok (.if_icmp .ne 9, 3) := by decide +kernel
theorem dX12_pair_104 : decode cX12_pair 104 = .ok (.iload 4, 2) := by decide +kernel
theorem dX12_pair_106 : decode cX12_pair 106 = .ok (.i2l, 1) := by decide +kernel
theorem dX12_pair_107 : decode cX12_pair 107 = .ok (.goto 4, 3) := by decide +kernel
theorem dX12_pair_110 : decode cX12_pair 110 = .ok (.lconst 1, 1) := by decide +kernel
theorem dX12_pair_111 : decode cX12_pair 111 = .ok (.lmul, 1) := by decide +kernel
theorem dX12_pair_112 : decode cX12_pair 112 = .ok (.lstore 7, 2) := by decide +kernel
theorem dX12_pair_114 : decode cX12_pair 114 = .ok (.iinc 9 1, 3) := by decide +kernel
theorem dX12_pair_117 : decode cX12_pair 117 = .ok (.goto (-62), 3) := by decide +kernel
theorem dX12_pair_120 : decode cX12_pair 120 = .ok (.lload 5, 2) := by decide +kernel
theorem dX12_pair_122 : decode cX12_pair 122 = .ok (.lload 7, 2) := by decide +kernel
theorem dX12_pair_124 : decode cX12_pair 124 = .ok (.invokestatic 528, 3) := by decide +kernel
theorem dX12_pair_127 : decode cX12_pair 127 = .ok (.lstore 9, 2) := by decide +kernel
theorem dX12_pair_129 : decode cX12_pair 129 = .ok (.iload_n 2, 1) := by decide +kernel
theorem dX12_pair_130 : decode cX12_pair 130 = .ok (.ifCond .ne 11, 3) := by decide +kernel
theorem dX12_pair_133 : decode cX12_pair 133 = .ok (.lload 5, 2) := by decide +kernel
theorem dX12_pair_135 : decode cX12_pair 135 = .ok (.lload 9, 2) := by decide +kernel
theorem dX12_pair_137 : decode cX12_pair 137 = .ok (.ldiv, 1) := by decide +kernel
theorem dX12_pair_138 : decode cX12_pair 138 = .ok (.goto 8, 3) := by decide +kernel
theorem dX12_pair_141 : decode cX12_pair 141 = .ok (.lload 7, 2) := by decide +kernel
theorem dX12_pair_143 : decode cX12_pair 143 = .ok (.lload 9, 2) := by decide +kernel
theorem dX12_pair_145 : decode cX12_pair 145 = .ok (.ldiv, 1) := by decide +kernel
theorem dX12_pair_146 : decode cX12_pair 146 = .ok (.lreturn, 1) := by decide +kernel
theorem dX12_phosphor_0 : decode cX12_phosphor 0 = .ok (.iload_n 1, 1) := by decide +kernel
theorem dX12_phosphor_1 : decode cX12_phosphor 1 = .ok (.i2l, 1) := by decide +kernel
theorem dX12_phosphor_2 : decode cX12_phosphor 2 = .ok (.lconst 0, 1) := by decide +kernel
theorem dX12_phosphor_3 : decode cX12_phosphor 3 = .ok (.ldc2_w 540, 3) := by decide +kernel
theorem dX12_phosphor_6 : decode cX12_phosphor 6 = .ok (.invokestatic 155, 3) := by decide +kernel
theorem dX12_phosphor_9 : decode cX12_phosphor 9 = .ok (.ifCond .eq 27, 3) := by decide +kernel
theorem dX12_phosphor_12 : decode cX12_phosphor 12 = .ok (.iload_n 2, 1) := by decide +kernel
theorem dX12_phosphor_13 : decode cX12_phosphor 13 = .ok (.i2l, 1) := by decide +kernel
theorem dX12_phosphor_14 : decode cX12_phosphor 14 = .ok (.lconst 0, 1) := by decide +kernel
theorem dX12_phosphor_15 : decode cX12_phosphor 15 = .ok (.ldc2_w 542, 3) := by decide +kernel
theorem dX12_phosphor_18 : decode cX12_phosphor 18 = .ok (.invokestatic 155, 3) := by decide +kernel
theorem dX12_phosphor_21 : decode cX12_phosphor 21 = .ok (.ifCond .eq 15, 3) := by decide +kernel
theorem dX12_phosphor_24 : decode cX12_phosphor 24 = .ok (.iload_n 3, 1) := by decide +kernel
theorem dX12_phosphor_25 : decode cX12_phosphor 25 = .ok (.i2l, 1) := by decide +kernel
theorem dX12_phosphor_26 : decode cX12_phosphor 26 = .ok (.lconst 0, 1) := by decide +kernel
theorem dX12_phosphor_27 : decode cX12_phosphor 27 = .ok (.ldc2_w 544, 3) := by decide +kernel
theorem dX12_phosphor_30 : decode cX12_phosphor 30 = .ok (.invokestatic 155, 3) := by decide +kernel
theorem dX12_phosphor_33 : decode cX12_phosphor 33 = .ok (.ifCond .ne 5, 3) := by decide +kernel
theorem dX12_phosphor_36 : decode cX12_phosphor 36 = .ok (.iconst 0, 1) := by decide +kernel
theorem dX12_phosphor_37 : decode cX12_phosphor 37 = .ok (.ireturn, 1) := by decide +kernel
theorem dX12_phosphor_38 : decode cX12_phosphor 38 = .ok (.aload_n 0, 1) := by decide +kernel
theorem dX12_phosphor_39 : decode cX12_phosphor 39 = .ok (.getfield 138, 3) := by decide +kernel
theorem dX12_phosphor_42 : decode cX12_phosphor 42 = .ok (.bipush 12, 2) := by decide +kernel
theorem dX12_phosphor_44 : decode cX12_phosphor 44 = .ok (.iload_n 2, 1) := by decide +kernel
theorem dX12_phosphor_45 : decode cX12_phosphor 45 = .ok (.imul, 1) := by decide +kernel
theorem dX12_phosphor_46 : decode cX12_phosphor 46 = .ok (.iload_n 1, 1) := by decide +kernel
theorem dX12_phosphor_47 : decode cX12_phosphor 47 = .ok (.iadd, 1) := by decide +kernel
theorem dX12_phosphor_48 : decode cX12_phosphor 48 = .ok (.iload_n 3, 1) := by decide +kernel
theorem dX12_phosphor_49 : decode cX12_phosphor 49 = .ok (.iastore, 1) := by decide +kernel
theorem dX12_phosphor_50 : decode cX12_phosphor 50 = .ok (.iconst 1, 1) := by decide +kernel
theorem dX12_phosphor_51 : decode cX12_phosphor 51 = .ok (.ireturn, 1) := by decide +kernel
theorem dX12_muchAt_0 : decode cX12_muchAt 0 = .ok (.iconst 0, 1) := by decide +kernel
theorem dX12_muchAt_1 : decode cX12_muchAt 1 = .ok (.istore 5, 2) := by decide +kernel
theorem dX12_muchAt_3 : decode cX12_muchAt 3 = .ok (.iconst 0, 1) := by decide +kernel
theorem dX12_muchAt_4 : decode cX12_muchAt 4 = .ok (.istore 6, 2) := by decide +kernel
theorem dX12_muchAt_6 : decode cX12_muchAt 6 = .ok (.iload 6, 2) := by decide +kernel
theorem dX12_muchAt_8 : decode cX12_muchAt 8 = .ok (.iload_n 3, 1) := by decide +kernel
theorem dX12_muchAt_9 : decode cX12_muchAt 9 = .ok (.if_icmp .ge 47, 3) := by decide +kernel
theorem dX12_muchAt_12 : decode cX12_muchAt 12 = .ok (.iconst 0, 1) := by decide +kernel
theorem dX12_muchAt_13 : decode cX12_muchAt 13 = .ok (.istore 7, 2) := by decide +kernel
theorem dX12_muchAt_15 : decode cX12_muchAt 15 = .ok (.iload 7, 2) := by decide +kernel
theorem dX12_muchAt_17 : decode cX12_muchAt 17 = .ok (.iload 4, 2) := by decide +kernel
theorem dX12_muchAt_19 : decode cX12_muchAt 19 = .ok (.if_icmp .ge 31, 3) := by decide +kernel
theorem dX12_muchAt_22 : decode cX12_muchAt 22 = .ok (.iload 5, 2) := by decide +kernel
theorem dX12_muchAt_24 : decode cX12_muchAt 24 = .ok (.aload_n 0, 1) := by decide +kernel
theorem dX12_muchAt_25 : decode cX12_muchAt 25 = .ok (.getfield 138, 3) := by decide +kernel
theorem dX12_muchAt_28 : decode cX12_muchAt 28 = .ok (.bipush 12, 2) := by decide +kernel
theorem dX12_muchAt_30 : decode cX12_muchAt 30 = .ok (.iload_n 2, 1) := by decide +kernel
theorem dX12_muchAt_31 : decode cX12_muchAt 31 = .ok (.iload 7, 2) := by decide +kernel
theorem dX12_muchAt_33 : decode cX12_muchAt 33 = .ok (.iadd, 1) := by decide +kernel
theorem dX12_muchAt_34 : decode cX12_muchAt 34 = .ok (.imul, 1) := by decide +kernel
theorem dX12_muchAt_35 : decode cX12_muchAt 35 = .ok (.iload_n 1, 1) := by decide +kernel
theorem dX12_muchAt_36 : decode cX12_muchAt 36 = .ok (.iadd, 1) := by decide +kernel
theorem dX12_muchAt_37 : decode cX12_muchAt 37 = .ok (.iload 6, 2) := by decide +kernel
theorem dX12_muchAt_39 : decode cX12_muchAt 39 = .ok (.iadd, 1) := by decide +kernel
theorem dX12_muchAt_40 : decode cX12_muchAt 40 = .ok (.iaload, 1) := by decide +kernel
theorem dX12_muchAt_41 : decode cX12_muchAt 41 = .ok (.iadd, 1) := by decide +kernel
theorem dX12_muchAt_42 : decode cX12_muchAt 42 = .ok (.istore 5, 2) := by decide +kernel
theorem dX12_muchAt_44 : decode cX12_muchAt 44 = .ok (.iinc 7 1, 3) := by decide +kernel
theorem dX12_muchAt_47 : decode cX12_muchAt 47 = .ok (.goto (-32), 3) := by decide +kernel
theorem dX12_muchAt_50 : decode cX12_muchAt 50 = .ok (.iinc 6 1, 3) := by decide +kernel
theorem dX12_muchAt_53 : decode cX12_muchAt 53 = .ok (.goto (-47), 3) := by decide +kernel
theorem dX12_muchAt_56 : decode cX12_muchAt 56 = .ok (.iload 5, 2) := by decide +kernel
theorem dX12_muchAt_58 : decode cX12_muchAt 58 = .ok (.ireturn, 1) := by decide +kernel
theorem dX12_body_0 : decode cX12_body 0 = .ok (.iload_n 1, 1) := by decide +kernel
theorem dX12_body_1 : decode cX12_body 1 = .ok (.i2l, 1) := by decide +kernel
theorem dX12_body_2 : decode cX12_body 2 = .ok (.lconst 1, 1) := by decide +kernel
theorem dX12_body_3 : decode cX12_body 3 = .ok (.ldc2_w 546, 3) := by decide +kernel
theorem dX12_body_6 : decode cX12_body 6 = .ok (.invokestatic 155, 3) := by decide +kernel
theorem dX12_body_9 : decode cX12_body 9 = .ok (.ifCond .eq 27, 3) := by decide +kernel
theorem dX12_body_12 : decode cX12_body 12 = .ok (.iload_n 2, 1) := by decide +kernel
theorem dX12_body_13 : decode cX12_body 13 = .ok (.i2l, 1) := by decide +kernel
theorem dX12_body_14 : decode cX12_body 14 = .ok (.lconst 1, 1) := by decide +kernel
theorem dX12_body_15 : decode cX12_body 15 = .ok (.ldc2_w 548, 3) := by decide +kernel
theorem dX12_body_18 : decode cX12_body 18 = .ok (.invokestatic 155, 3) := by decide +kernel
theorem dX12_body_21 : decode cX12_body 21 = .ok (.ifCond .eq 15, 3) := by decide +kernel
theorem dX12_body_24 : decode cX12_body 24 = .ok (.iload_n 3, 1) := by decide +kernel
theorem dX12_body_25 : decode cX12_body 25 = .ok (.i2l, 1) := by decide +kernel
theorem dX12_body_26 : decode cX12_body 26 = .ok (.lconst 0, 1) := by decide +kernel
theorem dX12_body_27 : decode cX12_body 27 = .ok (.ldc2_w 468, 3) := by decide +kernel
theorem dX12_body_30 : decode cX12_body 30 = .ok (.invokestatic 155, 3) := by decide +kernel
theorem dX12_body_33 : decode cX12_body 33 = .ok (.ifCond .ne 5, 3) := by decide +kernel
theorem dX12_body_36 : decode cX12_body 36 = .ok (.iconst (-1), 1) := by decide +kernel
theorem dX12_body_37 : decode cX12_body 37 = .ok (.ireturn, 1) := by decide +kernel
theorem dX12_body_38 : decode cX12_body 38 = .ok (.iconst (-1), 1) := by decide +kernel
theorem dX12_body_39 : decode cX12_body 39 = .ok (.istore 4, 2) := by decide +kernel
theorem dX12_body_41 : decode cX12_body 41 = .ok (.iconst 0, 1) := by decide +kernel
theorem dX12_body_42 : decode cX12_body 42 = .ok (.istore 5, 2) := by decide +kernel
theorem dX12_body_44 : decode cX12_body 44 = .ok (.iconst 0, 1) := by decide +kernel
theorem dX12_body_45 : decode cX12_body 45 = .ok (.istore 6, 2) := by decide +kernel
theorem dX12_body_47 : decode cX12_body 47 = .ok (.iconst 0, 1) := by decide +kernel
theorem dX12_body_48 : decode cX12_body 48 = .ok (.istore 7, 2) := by decide +kernel
theorem dX12_body_50 : decode cX12_body 50 = .ok (.iconst 0, 1) := by decide +kernel
theorem dX12_body_51 : decode cX12_body 51 = .ok (.istore 8, 2) := by decide +kernel
theorem dX12_body_53 : decode cX12_body 53 = .ok (.iload 8, 2) := by decide +kernel
theorem dX12_body_55 : decode cX12_body 55 = .ok (.iload_n 2, 1) := by decide +kernel
theorem dX12_body_56 : decode cX12_body 56 = .ok (.iadd, 1) := by decide +kernel
theorem dX12_body_57 : decode cX12_body 57 = .ok (.bipush 6, 2) := by decide +kernel
theorem dX12_body_59 : decode cX12_body 59 = .ok (.if_icmp .gt 78, 3) := by decide +kernel
theorem dX12_body_62 : decode cX12_body 62 = .ok (.iconst 0, 1) := by decide +kernel
theorem dX12_body_63 : decode cX12_body 63 = .ok (.istore 9, 2) := by decide +kernel
theorem dX12_body_65 : decode cX12_body 65 = .ok (.iload 9, 2) := by decide +kernel
theorem dX12_body_67 : decode cX12_body 67 = .ok (.iload_n 1, 1) := by decide +kernel
theorem dX12_body_68 : decode cX12_body 68 = .ok (.iadd, 1) := by decide +kernel
theorem dX12_body_69 : decode cX12_body 69 = .ok (.bipush 12, 2) := by decide +kernel
theorem dX12_body_71 : decode cX12_body 71 = .ok (.if_icmp .gt 60, 3) := by decide +kernel
theorem dX12_body_74 : decode cX12_body 74 = .ok (.aload_n 0, 1) := by decide +kernel
theorem dX12_body_75 : decode cX12_body 75 = .ok (.iload 9, 2) := by decide +kernel
theorem dX12_body_77 : decode cX12_body 77 = .ok (.iload 8, 2) := by decide +kernel
theorem dX12_body_79 : decode cX12_body 79 = .ok (.iload_n 1, 1) := by decide +kernel
theorem dX12_body_80 : decode cX12_body 80 = .ok (.iload_n 2, 1) := by decide +kernel
theorem dX12_body_81 : decode cX12_body 81 = .ok (.invokevirtual 550, 3) := by decide +kernel
theorem dX12_body_84 : decode cX12_body 84 = .ok (.istore 10, 2) := by decide +kernel
theorem dX12_body_86 : decode cX12_body 86 = .ok (.iload 10, 2) := by decide +kernel
theorem dX12_body_88 : decode cX12_body 88 = .ok (.iload 4, 2) := by decide +kernel
theorem dX12_body_90 : decode cX12_body 90 = .ok (.if_icmp .le 18, 3) := by decide +kernel
theorem dX12_body_93 : decode cX12_body 93 = .ok (.iload 10, 2) := by decide +kernel
theorem dX12_body_95 : decode cX12_body 95 = .ok (.istore 4, 2) := by decide +kernel
theorem dX12_body_97 : decode cX12_body 97 = .ok (.iload 9, 2) := by decide +kernel
theorem dX12_body_99 : decode cX12_body 99 = .ok (.istore 5, 2) := by decide +kernel
theorem dX12_body_101 : decode cX12_body 101 = .ok (.iload 8, 2) := by decide +kernel
theorem dX12_body_103 : decode cX12_body 103 = .ok (.istore 6, 2) := by decide +kernel
theorem dX12_body_105 : decode cX12_body 105 = .ok (.iconst 0, 1) := by decide +kernel
theorem dX12_body_106 : decode cX12_body 106 = .ok (.istore 7, 2) := by decide +kernel
theorem dX12_body_108 : decode cX12_body 108 = .ok (.iload 7, 2) := by decide +kernel
theorem dX12_body_110 : decode cX12_body 110 = .ok (.iload 10, 2) := by decide +kernel
theorem dX12_body_112 : decode cX12_body 112 = .ok (.iload 4, 2) := by decide +kernel
theorem dX12_body_114 : decode cX12_body 114 = .ok (.if_icmp .ne 7, 3) := by decide +kernel
theorem dX12_body_117 : decode cX12_body 117 = .ok (.iconst 1, 1) := by decide +kernel
theorem dX12_body_118 : decode cX12_body 118 = .ok (.goto 4, 3) := by decide +kernel
theorem dX12_body_121 : decode cX12_body 121 = .ok (.iconst 0, 1) := by decide +kernel
theorem dX12_body_122 : decode cX12_body 122 = .ok (.iadd, 1) := by decide +kernel
theorem dX12_body_123 : decode cX12_body 123 = .ok (.istore 7, 2) := by decide +kernel
theorem dX12_body_125 : decode cX12_body 125 = .ok (.iinc 9 1, 3) := by decide +kernel
theorem dX12_body_128 : decode cX12_body 128 = .ok (.goto (-63), 3) := by decide +kernel
theorem dX12_body_131 : decode cX12_body 131 = .ok (.iinc 8 1, 3) := by decide +kernel
theorem dX12_body_134 : decode cX12_body 134 = .ok (.goto (-81), 3) := by decide +kernel
theorem dX12_body_137 : decode cX12_body 137 = .ok (.iload_n 3, 1) := by decide +kernel
theorem dX12_body_138 : decode cX12_body 138 = .ok (.ifCond .ne 8, 3) := by decide +kernel
theorem dX12_body_141 : decode cX12_body 141 = .ok (.iload 5, 2) := by decide +kernel
theorem dX12_body_143 : decode cX12_body 143 = .ok (.goto 46, 3) := by decide +kernel
theorem dX12_body_146 : decode cX12_body 146 = .ok (.iload_n 3, 1) := by decide +kernel
theorem dX12_body_147 : decode cX12_body 147 = .ok (.iconst 1, 1) := by decide +kernel
theorem dX12_body_148 : decode cX12_body 148 = .ok (.if_icmp .ne 8, 3) := by decide +kernel
theorem dX12_body_151 : decode cX12_body 151 = .ok (.iload 6, 2) := by decide +kernel
theorem dX12_body_153 : decode cX12_body 153 = .ok (.goto 36, 3) := by decide +kernel
theorem dX12_body_156 : decode cX12_body 156 = .ok (.iload_n 3, 1) := by decide +kernel
theorem dX12_body_157 : decode cX12_body 157 = .ok (.iconst 2, 1) := by decide +kernel
theorem dX12_body_158 : decode cX12_body 158 = .ok (.if_icmp .ne 8, 3) := by decide +kernel
theorem dX12_body_161 : decode cX12_body 161 = .ok (.iload 4, 2) := by decide +kernel
theorem dX12_body_163 : decode cX12_body 163 = .ok (.goto 26, 3) := by decide +kernel
theorem dX12_body_166 : decode cX12_body 166 = .ok (.iload_n 3, 1) := by decide +kernel
theorem dX12_body_167 : decode cX12_body 167 = .ok (.iconst 3, 1) := by decide +kernel
theorem dX12_body_168 : decode cX12_body 168 = .ok (.if_icmp .ne 8, 3) := by decide +kernel
theorem dX12_body_171 : decode cX12_body 171 = .ok (.iload 7, 2) := by decide +kernel
theorem dX12_body_173 : decode cX12_body 173 = .ok (.goto 16, 3) := by decide +kernel
theorem dX12_body_176 : decode cX12_body 176 = .ok (.bipush 12, 2) := by decide +kernel
theorem dX12_body_178 : decode cX12_body 178 = .ok (.iload_n 1, 1) := by decide +kernel
theorem dX12_body_179 : decode cX12_body 179 = .ok (.isub, 1) := by decide +kernel
theorem dX12_body_180 : decode cX12_body 180 = .ok (.iconst 1, 1) := by decide +kernel
theorem dX12_body_181 : decode cX12_body 181 = .ok (.iadd, 1) := by decide +kernel
theorem dX12_body_182 : decode cX12_body 182 = .ok (.bipush 6, 2) := by decide +kernel
theorem dX12_body_184 : decode cX12_body 184 = .ok (.iload_n 2, 1) := by decide +kernel
theorem dX12_body_185 : decode cX12_body 185 = .ok (.isub, 1) := by decide +kernel
theorem dX12_body_186 : decode cX12_body 186 = .ok (.iconst 1, 1) := by decide +kernel
theorem dX12_body_187 : decode cX12_body 187 = .ok (.iadd, 1) := by decide +kernel
theorem dX12_body_188 : decode cX12_body 188 = .ok (.imul, 1) := by decide +kernel
theorem dX12_body_189 : decode cX12_body 189 = .ok (.ireturn, 1) := by decide +kernel
theorem dX12_story_0 : decode cX12_story 0 = .ok (.iload_n 1, 1) := by decide +kernel
theorem dX12_story_1 : decode cX12_story 1 = .ok (.i2l, 1) := by decide +kernel
theorem dX12_story_2 : decode cX12_story 2 = .ok (.lconst 0, 1) := by decide +kernel
theorem dX12_story_3 : decode cX12_story 3 = .ok (.ldc2_w 542, 3) := by decide +kernel
theorem dX12_story_6 : decode cX12_story 6 = .ok (.invokestatic 155, 3) := by decide +kernel
theorem dX12_story_9 : decode cX12_story 9 = .ok (.ifCond .eq 27, 3) := by decide +kernel
theorem dX12_story_12 : decode cX12_story 12 = .ok (.iload_n 2, 1) := by decide +kernel
theorem dX12_story_13 : decode cX12_story 13 = .ok (.i2l, 1) := by decide +kernel
theorem dX12_story_14 : decode cX12_story 14 = .ok (.lconst 0, 1) := by decide +kernel
theorem dX12_story_15 : decode cX12_story 15 = .ok (.ldc2_w 542, 3) := by decide +kernel
theorem dX12_story_18 : decode cX12_story 18 = .ok (.invokestatic 155, 3) := by decide +kernel
theorem dX12_story_21 : decode cX12_story 21 = .ok (.ifCond .eq 15, 3) := by decide +kernel
theorem dX12_story_24 : decode cX12_story 24 = .ok (.iload_n 3, 1) := by decide +kernel
theorem dX12_story_25 : decode cX12_story 25 = .ok (.i2l, 1) := by decide +kernel
theorem dX12_story_26 : decode cX12_story 26 = .ok (.lconst 0, 1) := by decide +kernel
theorem dX12_story_27 : decode cX12_story 27 = .ok (.ldc2_w 153, 3) := by decide +kernel
theorem dX12_story_30 : decode cX12_story 30 = .ok (.invokestatic 155, 3) := by decide +kernel
theorem dX12_story_33 : decode cX12_story 33 = .ok (.ifCond .ne 5, 3) := by decide +kernel
theorem dX12_story_36 : decode cX12_story 36 = .ok (.iconst 0, 1) := by decide +kernel
theorem dX12_story_37 : decode cX12_story 37 = .ok (.ireturn, 1) := by decide +kernel
theorem dX12_story_38 : decode cX12_story 38 = .ok (.aload_n 0, 1) := by decide +kernel
theorem dX12_story_39 : decode cX12_story 39 = .ok (.getfield 141, 3) := by decide +kernel
theorem dX12_story_42 : decode cX12_story 42 = .ok (.bipush 6, 2) := by decide +kernel
theorem dX12_story_44 : decode cX12_story 44 = .ok (.iload_n 1, 1) := by decide +kernel
theorem dX12_story_45 : decode cX12_story 45 = .ok (.imul, 1) := by decide +kernel
theorem dX12_story_46 : decode cX12_story 46 = .ok (.iload_n 2, 1) := by decide +kernel
theorem dX12_story_47 : decode cX12_story 47 = .ok (.iadd, 1) := by decide +kernel
theorem dX12_story_48 : decode cX12_story 48 = .ok (.iload_n 3, 1) := by decide +kernel
theorem dX12_story_49 : decode cX12_story 49 = .ok (.iastore, 1) := by decide +kernel
theorem dX12_story_50 : decode cX12_story 50 = .ok (.aload_n 0, 1) := by decide +kernel
theorem dX12_story_51 : decode cX12_story 51 = .ok (.getfield 144, 3) := by decide +kernel
theorem dX12_story_54 : decode cX12_story 54 = .ok (.iload_n 1, 1) := by decide +kernel
theorem dX12_story_55 : decode cX12_story 55 = .ok (.iconst 1, 1) := by decide +kernel
theorem dX12_story_56 : decode cX12_story 56 = .ok (.bastore, 1) := by decide +kernel
theorem dX12_story_57 : decode cX12_story 57 = .ok (.iconst 1, 1) := by decide +kernel
theorem dX12_story_58 : decode cX12_story 58 = .ok (.ireturn, 1) := by decide +kernel
theorem dX12_sign_0 : decode cX12_sign 0 = .ok (.iload_n 1, 1) := by decide +kernel
theorem dX12_sign_1 : decode cX12_sign 1 = .ok (.i2l, 1) := by decide +kernel
theorem dX12_sign_2 : decode cX12_sign 2 = .ok (.lconst 0, 1) := by decide +kernel
theorem dX12_sign_3 : decode cX12_sign 3 = .ok (.ldc2_w 542, 3) := by decide +kernel
theorem dX12_sign_6 : decode cX12_sign 6 = .ok (.invokestatic 155, 3) := by decide +kernel
theorem dX12_sign_9 : decode cX12_sign 9 = .ok (.ifCond .eq 15, 3) := by decide +kernel
theorem dX12_sign_12 : decode cX12_sign 12 = .ok (.iload_n 2, 1) := by decide +kernel
theorem dX12_sign_13 : decode cX12_sign 13 = .ok (.i2l, 1) := by decide +kernel
theorem dX12_sign_14 : decode cX12_sign 14 = .ok (.ldc2_w 492, 3) := by decide +kernel
theorem dX12_sign_17 : decode cX12_sign 17 = .ok (.lconst 1, 1) := by decide +kernel
theorem dX12_sign_18 : decode cX12_sign 18 = .ok (.invokestatic 155, 3) := by decide +kernel
theorem dX12_sign_21 : decode cX12_sign 21 = .ok (.ifCond .ne 5, 3) := by decide +kernel
theorem dX12_sign_24 : decode cX12_sign 24 = .ok (.iconst 0, 1) := by decide +kernel
theorem dX12_sign_25 : decode cX12_sign 25 = .ok (.ireturn, 1) := by decide +kernel
theorem dX12_sign_26 : decode cX12_sign 26 = .ok (.aload_n 0, 1) := by decide +kernel
theorem dX12_sign_27 : decode cX12_sign 27 = .ok (.getfield 147, 3) := by decide +kernel
theorem dX12_sign_30 : decode cX12_sign 30 = .ok (.iload_n 1, 1) := by decide +kernel
theorem dX12_sign_31 : decode cX12_sign 31 = .ok (.iload_n 2, 1) := by decide +kernel
theorem dX12_sign_32 : decode cX12_sign 32 = .ok (.iastore, 1) := by decide +kernel
theorem dX12_sign_33 : decode cX12_sign 33 = .ok (.iconst 1, 1) := by decide +kernel
theorem dX12_sign_34 : decode cX12_sign 34 = .ok (.ireturn, 1) := by decide +kernel
theorem dX12_storiesTold_0 : decode cX12_storiesTold 0 = .ok (.iconst 0, 1) := by decide +kernel
theorem dX12_storiesTold_1 : decode cX12_storiesTold 1 = .ok (.istore_n 1, 1) := by decide +kernel
theorem dX12_storiesTold_2 : decode cX12_storiesTold 2 = .ok (.iconst 0, 1) := by decide +kernel
theorem dX12_storiesTold_3 : decode cX12_storiesTold 3 = .ok (.istore_n 2, 1) := by decide +kernel
theorem dX12_storiesTold_4 : decode cX12_storiesTold 4 = .ok (.iload_n 2, 1) := by decide +kernel
theorem dX12_storiesTold_5 : decode cX12_storiesTold 5 = .ok (.bipush 6, 2) := by decide +kernel
theorem dX12_storiesTold_7 : decode cX12_storiesTold 7 = .ok (.if_icmp .ge 26, 3) := by decide +kernel
theorem dX12_storiesTold_10 : decode cX12_storiesTold 10 = .ok (.iload_n 1, 1) := by decide +kernel
theorem dX12_storiesTold_11 : decode cX12_storiesTold 11 = .ok (.aload_n 0, 1) := by decide +kernel
theorem dX12_storiesTold_12 : decode cX12_storiesTold 12 = .ok (.getfield 144, 3) := by decide +kernel
theorem dX12_storiesTold_15 : decode cX12_storiesTold 15 = .ok (.iload_n 2, 1) := by decide +kernel
theorem dX12_storiesTold_16 : decode cX12_storiesTold 16 = .ok (.baload, 1) := by decide +kernel
theorem dX12_storiesTold_17 : decode cX12_storiesTold 17 = .ok (.ifCond .eq 7, 3) := by decide +kernel
theorem dX12_storiesTold_20 : decode cX12_storiesTold 20 = .ok (.iconst 1, 1) := by decide +kernel
theorem dX12_storiesTold_21 : decode cX12_storiesTold 21 = .ok (.goto 4, 3) := by decide +kernel
theorem dX12_storiesTold_24 : decode cX12_storiesTold 24 = .ok (.iconst 0, 1) := by decide +kernel
theorem dX12_storiesTold_25 : decode cX12_storiesTold 25 = .ok (.iadd, 1) := by decide +kernel
theorem dX12_storiesTold_26 : decode cX12_storiesTold 26 = .ok (.istore_n 1, 1) := by decide +kernel
theorem dX12_storiesTold_27 : decode cX12_storiesTold 27 = .ok (.iinc 2 1, 3) := by decide +kernel
theorem dX12_storiesTold_30 : decode cX12_storiesTold 30 = .ok (.goto (-26), 3) := by decide +kernel
theorem dX12_storiesTold_33 : decode cX12_storiesTold 33 = .ok (.iload_n 1, 1) := by decide +kernel
theorem dX12_storiesTold_34 : decode cX12_storiesTold 34 = .ok (.ireturn, 1) := by decide +kernel
theorem dX12_odds_0 : decode cX12_odds 0 = .ok (.iload_n 1, 1) := by decide +kernel
theorem dX12_odds_1 : decode cX12_odds 1 = .ok (.iconst (-1), 1) := by decide +kernel
theorem dX12_odds_2 : decode cX12_odds 2 = .ok (.if_icmp .eq 36, 3) := by decide +kernel
theorem dX12_odds_5 : decode cX12_odds 5 = .ok (.iload_n 1, 1) := by decide +kernel
theorem dX12_odds_6 : decode cX12_odds 6 = .ok (.i2l, 1) := by decide +kernel
theorem dX12_odds_7 : decode cX12_odds 7 = .ok (.lconst 0, 1) := by decide +kernel
theorem dX12_odds_8 : decode cX12_odds 8 = .ok (.ldc2_w 542, 3) := by decide +kernel
theorem dX12_odds_11 : decode cX12_odds 11 = .ok (.invokestatic 155, 3) := by decide +kernel
theorem dX12_odds_14 : decode cX12_odds 14 = .ok (.ifCond .eq 20, 3) := by decide +kernel
theorem dX12_odds_17 : decode cX12_odds 17 = .ok (.aload_n 0, 1) := by decide +kernel
theorem dX12_odds_18 : decode cX12_odds 18 = .ok (.getfield 144, 3) := by decide +kernel
theorem dX12_odds_21 : decode cX12_odds 21 = .ok (.iload_n 1, 1) := by decide +kernel
theorem dX12_odds_22 : decode cX12_odds 22 = .ok (.baload, 1) := by decide +kernel
theorem dX12_odds_23 : decode cX12_odds 23 = .ok (.ifCond .eq 11, 3) := by decide +kernel
theorem dX12_odds_26 : decode cX12_odds 26 = .ok (.aload_n 0, 1) := by decide +kernel
theorem dX12_odds_27 : decode cX12_odds 27 = .ok (.iload_n 1, 1) := by decide +kernel
theorem dX12_odds_28 : decode cX12_odds 28 = .ok (.invokevirtual 553, 3) := by decide +kernel
theorem dX12_odds_31 : decode cX12_odds 31 = .ok (.goto 6, 3) := by decide +kernel
theorem dX12_odds_34 : decode cX12_odds 34 = .ok (.ldc2_w 492, 3) := by decide +kernel
theorem dX12_odds_37 : decode cX12_odds 37 = .ok (.lreturn, 1) := by decide +kernel
theorem dX12_odds_38 : decode cX12_odds 38 = .ok (.lconst 0, 1) := by decide +kernel
theorem dX12_odds_39 : decode cX12_odds 39 = .ok (.lstore_n 2, 1) := by decide +kernel
theorem dX12_odds_40 : decode cX12_odds 40 = .ok (.iconst 0, 1) := by decide +kernel
theorem dX12_odds_41 : decode cX12_odds 41 = .ok (.istore 4, 2) := by decide +kernel
theorem dX12_odds_43 : decode cX12_odds 43 = .ok (.iload 4, 2) := by decide +kernel
theorem dX12_odds_45 : decode cX12_odds 45 = .ok (.bipush 6, 2) := by decide +kernel
theorem dX12_odds_47 : decode cX12_odds 47 = .ok (.if_icmp .ge 32, 3) := by decide +kernel
theorem dX12_odds_50 : decode cX12_odds 50 = .ok (.lload_n 2, 1) := by decide +kernel
theorem dX12_odds_51 : decode cX12_odds 51 = .ok (.aload_n 0, 1) := by decide +kernel
theorem dX12_odds_52 : decode cX12_odds 52 = .ok (.getfield 144, 3) := by decide +kernel
theorem dX12_odds_55 : decode cX12_odds 55 = .ok (.iload 4, 2) := by decide +kernel
theorem dX12_odds_57 : decode cX12_odds 57 = .ok (.baload, 1) := by decide +kernel
theorem dX12_odds_58 : decode cX12_odds 58 = .ok (.ifCond .eq 12, 3) := by decide +kernel
theorem dX12_odds_61 : decode cX12_odds 61 = .ok (.aload_n 0, 1) := by decide +kernel
theorem dX12_odds_62 : decode cX12_odds 62 = .ok (.iload 4, 2) := by decide +kernel
theorem dX12_odds_64 : decode cX12_odds 64 = .ok (.invokevirtual 553, 3) := by decide +kernel
theorem dX12_odds_67 : decode cX12_odds 67 = .ok (.goto 4, 3) := by decide +kernel
theorem dX12_odds_70 : decode cX12_odds 70 = .ok (.lconst 0, 1) := by decide +kernel
theorem dX12_odds_71 : decode cX12_odds 71 = .ok (.ladd, 1) := by decide +kernel
theorem dX12_odds_72 : decode cX12_odds 72 = .ok (.lstore_n 2, 1) := by decide +kernel
theorem dX12_odds_73 : decode cX12_odds 73 = .ok (.iinc 4 1, 3) := by decide +kernel
theorem dX12_odds_76 : decode cX12_odds 76 = .ok (.goto (-33), 3) := by decide +kernel
theorem dX12_odds_79 : decode cX12_odds 79 = .ok (.lload_n 2, 1) := by decide +kernel
theorem dX12_odds_80 : decode cX12_odds 80 = .ok (.lreturn, 1) := by decide +kernel
theorem dX12_next_0 : decode cX12_next 0 = .ok (.iload_n 1, 1) := by decide +kernel
theorem dX12_next_1 : decode cX12_next 1 = .ok (.i2l, 1) := by decide +kernel
theorem dX12_next_2 : decode cX12_next 2 = .ok (.lconst 0, 1) := by decide +kernel
theorem dX12_next_3 : decode cX12_next 3 = .ok (.lconst 1, 1) := by decide +kernel
theorem dX12_next_4 : decode cX12_next 4 = .ok (.invokestatic 155, 3) := by decide +kernel
theorem dX12_next_7 : decode cX12_next 7 = .ok (.ifCond .eq 10, 3) := by decide +kernel
theorem dX12_next_10 : decode cX12_next 10 = .ok (.aload_n 0, 1) := by decide +kernel
theorem dX12_next_11 : decode cX12_next 11 = .ok (.invokevirtual 557, 3) := by decide +kernel
theorem dX12_next_14 : decode cX12_next 14 = .ok (.ifCond .ne 5, 3) := by decide +kernel
theorem dX12_next_17 : decode cX12_next 17 = .ok (.iconst (-1), 1) := by decide +kernel
theorem dX12_next_18 : decode cX12_next 18 = .ok (.ireturn, 1) := by decide +kernel
theorem dX12_next_19 : decode cX12_next 19 = .ok (.iconst (-1), 1) := by decide +kernel
theorem dX12_next_20 : decode cX12_next 20 = .ok (.istore_n 2, 1) := by decide +kernel
theorem dX12_next_21 : decode cX12_next 21 = .ok (.iconst 0, 1) := by decide +kernel
theorem dX12_next_22 : decode cX12_next 22 = .ok (.istore_n 3, 1) := by decide +kernel
theorem dX12_next_23 : decode cX12_next 23 = .ok (.iconst 0, 1) := by decide +kernel
theorem dX12_next_24 : decode cX12_next 24 = .ok (.istore 4, 2) := by decide +kernel
theorem dX12_next_26 : decode cX12_next 26 = .ok (.iload 4, 2) := by decide +kernel
theorem dX12_next_28 : decode cX12_next 28 = .ok (.bipush 6, 2) := by decide +kernel
theorem dX12_next_30 : decode cX12_next 30 = .ok (.if_icmp .ge 135, 3) := by decide +kernel
theorem dX12_next_33 : decode cX12_next 33 = .ok (.aload_n 0, 1) := by decide +kernel
theorem dX12_next_34 : decode cX12_next 34 = .ok (.getfield 147, 3) := by decide +kernel
theorem dX12_next_37 : decode cX12_next 37 = .ok (.iload 4, 2) := by decide +kernel
theorem dX12_next_39 : decode cX12_next 39 = .ok (.iaload, 1) := by decide +kernel
theorem dX12_next_40 : decode cX12_next 40 = .ok (.iconst (-1), 1) := by decide +kernel
theorem dX12_next_41 : decode cX12_next 41 = .ok (.if_icmp .eq 6, 3) := by decide +kernel
theorem dX12_next_44 : decode cX12_next 44 = .ok (.goto 115, 3) := by decide +kernel
theorem dX12_next_47 : decode cX12_next 47 = .ok (.iconst 0, 1) := by decide +kernel
theorem dX12_next_48 : decode cX12_next 48 = .ok (.istore 5, 2) := by decide +kernel
theorem dX12_next_50 : decode cX12_next 50 = .ok (.iconst 0, 1) := by decide +kernel
theorem dX12_next_51 : decode cX12_next 51 = .ok (.istore 6, 2) := by decide +kernel
theorem dX12_next_53 : decode cX12_next 53 = .ok (.iload 6, 2) := by decide +kernel
theorem dX12_next_55 : decode cX12_next 55 = .ok (.bipush 6, 2) := by decide +kernel
theorem dX12_next_57 : decode cX12_next 57 = .ok (.if_icmp .ge 82, 3) := by decide +kernel
theorem dX12_next_60 : decode cX12_next 60 = .ok (.iconst 0, 1) := by decide +kernel
theorem dX12_next_61 : decode cX12_next 61 = .ok (.istore 7, 2) := by decide +kernel
theorem dX12_next_63 : decode cX12_next 63 = .ok (.iload 7, 2) := by decide +kernel
theorem dX12_next_65 : decode cX12_next 65 = .ok (.iload 6, 2) := by decide +kernel
theorem dX12_next_67 : decode cX12_next 67 = .ok (.if_icmp .ge 66, 3) := by decide +kernel
theorem dX12_next_70 : decode cX12_next 70 = .ok (.iload 5, 2) := by decide +kernel
theorem dX12_next_72 : decode cX12_next 72 = .ok (.aload_n 0, 1) := by decide +kernel
theorem dX12_next_73 : decode cX12_next 73 = .ok (.iload 6, 2) := by decide +kernel
theorem dX12_next_75 : decode cX12_next 75 = .ok (.invokevirtual 560, 3) := by decide +kernel
theorem dX12_next_78 : decode cX12_next 78 = .ok (.ifCond .eq 45, 3) := by decide +kernel
theorem dX12_next_81 : decode cX12_next 81 = .ok (.aload_n 0, 1) := by decide +kernel
theorem dX12_next_82 : decode cX12_next 82 = .ok (.iload 7, 2) := by decide +kernel
theorem dX12_next_84 : decode cX12_next 84 = .ok (.invokevirtual 560, 3) := by decide +kernel
theorem dX12_next_87 : decode cX12_next 87 = .ok (.ifCond .eq 36, 3) := by decide +kernel
theorem dX12_next_90 : decode cX12_next 90 = .ok (.aload_n 0, 1) := by decide +kernel
theorem dX12_next_91 : decode cX12_next 91 = .ok (.getfield 141, 3) := by decide +kernel
theorem dX12_next_94 : decode cX12_next 94 = .ok (.bipush 6, 2) := by decide +kernel
theorem dX12_next_96 : decode cX12_next 96 = .ok (.iload 6, 2) := by decide +kernel
theorem dX12_next_98 : decode cX12_next 98 = .ok (.imul, 1) := by decide +kernel
theorem dX12_next_99 : decode cX12_next 99 = .ok (.iload 4, 2) := by decide +kernel
theorem dX12_next_101 : decode cX12_next 101 = .ok (.iadd, 1) := by decide +kernel
theorem dX12_next_102 : decode cX12_next 102 = .ok (.iaload, 1) := by decide +kernel
theorem dX12_next_103 : decode cX12_next 103 = .ok (.aload_n 0, 1) := by decide +kernel
theorem dX12_next_104 : decode cX12_next 104 = .ok (.getfield 141, 3) := by decide +kernel
theorem dX12_next_107 : decode cX12_next 107 = .ok (.bipush 6, 2) := by decide +kernel
theorem dX12_next_109 : decode cX12_next 109 = .ok (.iload 7, 2) := by decide +kernel
theorem dX12_next_111 : decode cX12_next 111 = .ok (.imul, 1) := by decide +kernel
theorem dX12_next_112 : decode cX12_next 112 = .ok (.iload 4, 2) := by decide +kernel
theorem dX12_next_114 : decode cX12_next 114 = .ok (.iadd, 1) := by decide +kernel
theorem dX12_next_115 : decode cX12_next 115 = .ok (.iaload, 1) := by decide +kernel
theorem dX12_next_116 : decode cX12_next 116 = .ok (.isub, 1) := by decide +kernel
theorem dX12_next_117 : decode cX12_next 117 = .ok (.invokestatic 443, 3) := by decide +kernel
theorem dX12_next_120 : decode cX12_next 120 = .ok (.goto 4, 3) := by decide +kernel
theorem dX12_next_123 : decode cX12_next 123 = .ok (.iconst 0, 1) := by decide +kernel
theorem dX12_next_124 : decode cX12_next 124 = .ok (.iadd, 1) := by decide +kernel
theorem dX12_next_125 : decode cX12_next 125 = .ok (.istore 5, 2) := by decide +kernel
theorem dX12_next_127 : decode cX12_next 127 = .ok (.iinc 7 1, 3) := by decide +kernel
theorem dX12_next_130 : decode cX12_next 130 = .ok (.goto (-67), 3) := by decide +kernel
theorem dX12_next_133 : decode cX12_next 133 = .ok (.iinc 6 1, 3) := by decide +kernel
theorem dX12_next_136 : decode cX12_next 136 = .ok (.goto (-83), 3) := by decide +kernel
theorem dX12_next_139 : decode cX12_next 139 = .ok (.iload_n 2, 1) := by decide +kernel
theorem dX12_next_140 : decode cX12_next 140 = .ok (.iconst (-1), 1) := by decide +kernel
theorem dX12_next_141 : decode cX12_next 141 = .ok (.if_icmp .eq 12, 3) := by decide +kernel
theorem dX12_next_144 : decode cX12_next 144 = .ok (.iload 5, 2) := by decide +kernel
theorem dX12_next_146 : decode cX12_next 146 = .ok (.iload_n 3, 1) := by decide +kernel
theorem dX12_next_147 : decode cX12_next 147 = .ok (.if_icmp .gt 6, 3) := by decide +kernel
theorem dX12_next_150 : decode cX12_next 150 = .ok (.goto 9, 3) := by decide +kernel
theorem dX12_next_153 : decode cX12_next 153 = .ok (.iload 4, 2) := by decide +kernel
theorem dX12_next_155 : decode cX12_next 155 = .ok (.istore_n 2, 1) := by decide +kernel
theorem dX12_next_156 : decode cX12_next 156 = .ok (.iload 5, 2) := by decide +kernel
theorem dX12_next_158 : decode cX12_next 158 = .ok (.istore_n 3, 1) := by decide +kernel
theorem dX12_next_159 : decode cX12_next 159 = .ok (.iinc 4 1, 3) := by decide +kernel
theorem dX12_next_162 : decode cX12_next 162 = .ok (.goto (-136), 3) := by decide +kernel
theorem dX12_next_165 : decode cX12_next 165 = .ok (.iload_n 2, 1) := by decide +kernel
theorem dX12_next_166 : decode cX12_next 166 = .ok (.iconst (-1), 1) := by decide +kernel
theorem dX12_next_167 : decode cX12_next 167 = .ok (.if_icmp .eq 7, 3) := by decide +kernel
theorem dX12_next_170 : decode cX12_next 170 = .ok (.iload_n 1, 1) := by decide +kernel
theorem dX12_next_171 : decode cX12_next 171 = .ok (.ifCond .ne 7, 3) := by decide +kernel
theorem dX12_next_174 : decode cX12_next 174 = .ok (.iload_n 2, 1) := by decide +kernel
theorem dX12_next_175 : decode cX12_next 175 = .ok (.goto 4, 3) := by decide +kernel
theorem dX12_next_178 : decode cX12_next 178 = .ok (.iload_n 3, 1) := by decide +kernel
theorem dX12_next_179 : decode cX12_next 179 = .ok (.ireturn, 1) := by decide +kernel
theorem dX12_areBent_0 : decode cX12_areBent 0 = .ok (.aload_n 0, 1) := by decide +kernel
theorem dX12_areBent_1 : decode cX12_areBent 1 = .ok (.getfield 341, 3) := by decide +kernel
theorem dX12_areBent_4 : decode cX12_areBent 4 = .ok (.ifCond .le 7, 3) := by decide +kernel
theorem dX12_areBent_7 : decode cX12_areBent 7 = .ok (.iconst 1, 1) := by decide +kernel
theorem dX12_areBent_8 : decode cX12_areBent 8 = .ok (.goto 4, 3) := by decide +kernel
theorem dX12_areBent_11 : decode cX12_areBent 11 = .ok (.iconst 0, 1) := by decide +kernel
theorem dX12_areBent_12 : decode cX12_areBent 12 = .ok (.istore_n 2, 1) := by decide +kernel
theorem dX12_areBent_13 : decode cX12_areBent 13 = .ok (.iconst 0, 1) := by decide +kernel
theorem dX12_areBent_14 : decode cX12_areBent 14 = .ok (.istore_n 3, 1) := by decide +kernel
theorem dX12_areBent_15 : decode cX12_areBent 15 = .ok (.iload_n 3, 1) := by decide +kernel
theorem dX12_areBent_16 : decode cX12_areBent 16 = .ok (.aload_n 0, 1) := by decide +kernel
theorem dX12_areBent_17 : decode cX12_areBent 17 = .ok (.getfield 341, 3) := by decide +kernel
theorem dX12_areBent_20 : decode cX12_areBent 20 = .ok (.if_icmp .ge 28, 3) := by decide +kernel
theorem dX12_areBent_23 : decode cX12_areBent 23 = .ok (.aload_n 0, 1) := by decide +kernel
theorem dX12_areBent_24 : decode cX12_areBent 24 = .ok (.iload_n 3, 1) := by decide +kernel
theorem dX12_areBent_25 : decode cX12_areBent 25 = .ok (.iload_n 1, 1) := by decide +kernel
theorem dX12_areBent_26 : decode cX12_areBent 26 = .ok (.invokevirtual 511, 3) := by decide +kernel
theorem dX12_areBent_29 : decode cX12_areBent 29 = .ok (.ifCond .eq 11, 3) := by decide +kernel
theorem dX12_areBent_32 : decode cX12_areBent 32 = .ok (.iload_n 2, 1) := by decide +kernel
theorem dX12_areBent_33 : decode cX12_areBent 33 = .ok (.ifCond .eq 7, 3) := by decide +kernel
theorem dX12_areBent_36 : decode cX12_areBent 36 = .ok (.iconst 1, 1) := by decide +kernel
theorem dX12_areBent_37 : decode cX12_areBent 37 = .ok (.goto 4, 3) := by decide +kernel
theorem dX12_areBent_40 : decode cX12_areBent 40 = .ok (.iconst 0, 1) := by decide +kernel
theorem dX12_areBent_41 : decode cX12_areBent 41 = .ok (.istore_n 2, 1) := by decide +kernel
theorem dX12_areBent_42 : decode cX12_areBent 42 = .ok (.iinc 3 1, 3) := by decide +kernel
theorem dX12_areBent_45 : decode cX12_areBent 45 = .ok (.goto (-30), 3) := by decide +kernel
theorem dX12_areBent_48 : decode cX12_areBent 48 = .ok (.iload_n 2, 1) := by decide +kernel
theorem dX12_areBent_49 : decode cX12_areBent 49 = .ok (.ireturn, 1) := by decide +kernel
theorem dX12_isHeight_0 : decode cX12_isHeight 0 = .ok (.iload_n 0, 1) := by decide +kernel
theorem dX12_isHeight_1 : decode cX12_isHeight 1 = .ok (.i2l, 1) := by decide +kernel
theorem dX12_isHeight_2 : decode cX12_isHeight 2 = .ok (.lconst 1, 1) := by decide +kernel
theorem dX12_isHeight_3 : decode cX12_isHeight 3 = .ok (.ldc2_w 276, 3) := by decide +kernel
theorem dX12_isHeight_6 : decode cX12_isHeight 6 = .ok (.invokestatic 155, 3) := by decide +kernel
theorem dX12_isHeight_9 : decode cX12_isHeight 9 = .ok (.ireturn, 1) := by decide +kernel
theorem dX12_area_0 : decode cX12_area 0 = .ok (.aload_n 0, 1) := by decide +kernel
theorem dX12_area_1 : decode cX12_area 1 = .ok (.iload_n 1, 1) := by decide +kernel
theorem dX12_area_2 : decode cX12_area 2 = .ok (.invokevirtual 344, 3) := by decide +kernel
theorem dX12_area_5 : decode cX12_area 5 = .ok (.ifCond .eq 38, 3) := by decide +kernel
theorem dX12_area_8 : decode cX12_area 8 = .ok (.iload_n 2, 1) := by decide +kernel
theorem dX12_area_9 : decode cX12_area 9 = .ok (.invokestatic 563, 3) := by decide +kernel
theorem dX12_area_12 : decode cX12_area 12 = .ok (.ifCond .eq 31, 3) := by decide +kernel
theorem dX12_area_15 : decode cX12_area 15 = .ok (.aload_n 0, 1) := by decide +kernel
theorem dX12_area_16 : decode cX12_area 16 = .ok (.iload 4, 2) := by decide +kernel
theorem dX12_area_18 : decode cX12_area 18 = .ok (.invokevirtual 347, 3) := by decide +kernel
theorem dX12_area_21 : decode cX12_area 21 = .ok (.ifCond .eq 22, 3) := by decide +kernel
theorem dX12_area_24 : decode cX12_area 24 = .ok (.aload_n 0, 1) := by decide +kernel
theorem dX12_area_25 : decode cX12_area 25 = .ok (.iload_n 3, 1) := by decide +kernel
theorem dX12_area_26 : decode cX12_area 26 = .ok (.invokevirtual 566, 3) := by decide +kernel
theorem dX12_area_29 : decode cX12_area 29 = .ok (.ifCond .eq 14, 3) := by decide +kernel
theorem dX12_area_32 : decode cX12_area 32 = .ok (.aload_n 0, 1) := by decide +kernel
theorem dX12_area_33 : decode cX12_area 33 = .ok (.iload_n 1, 1) := by decide +kernel
theorem dX12_area_34 : decode cX12_area 34 = .ok (.iload_n 2, 1) := by decide +kernel
theorem dX12_area_35 : decode cX12_area 35 = .ok (.iload 4, 2) := by decide +kernel
theorem dX12_area_37 : decode cX12_area 37 = .ok (.invokevirtual 569, 3) := by decide +kernel
theorem dX12_area_40 : decode cX12_area 40 = .ok (.goto 6, 3) := by decide +kernel
theorem dX12_area_43 : decode cX12_area 43 = .ok (.ldc2_w 492, 3) := by decide +kernel
theorem dX12_area_46 : decode cX12_area 46 = .ok (.lreturn, 1) := by decide +kernel
theorem dX12_volume_0 : decode cX12_volume 0 = .ok (.iload_n 1, 1) := by decide +kernel
theorem dX12_volume_1 : decode cX12_volume 1 = .ok (.invokestatic 563, 3) := by decide +kernel
theorem dX12_volume_4 : decode cX12_volume 4 = .ok (.ifCond .eq 28, 3) := by decide +kernel
theorem dX12_volume_7 : decode cX12_volume 7 = .ok (.aload_n 0, 1) := by decide +kernel
theorem dX12_volume_8 : decode cX12_volume 8 = .ok (.iload_n 3, 1) := by decide +kernel
theorem dX12_volume_9 : decode cX12_volume 9 = .ok (.invokevirtual 347, 3) := by decide +kernel
theorem dX12_volume_12 : decode cX12_volume 12 = .ok (.ifCond .eq 20, 3) := by decide +kernel
theorem dX12_volume_15 : decode cX12_volume 15 = .ok (.aload_n 0, 1) := by decide +kernel
theorem dX12_volume_16 : decode cX12_volume 16 = .ok (.iload_n 2, 1) := by decide +kernel
theorem dX12_volume_17 : decode cX12_volume 17 = .ok (.invokevirtual 566, 3) := by decide +kernel
theorem dX12_volume_20 : decode cX12_volume 20 = .ok (.ifCond .eq 12, 3) := by decide +kernel
theorem dX12_volume_23 : decode cX12_volume 23 = .ok (.aload_n 0, 1) := by decide +kernel
theorem dX12_volume_24 : decode cX12_volume 24 = .ok (.iload_n 1, 1) := by decide +kernel
theorem dX12_volume_25 : decode cX12_volume 25 = .ok (.iload_n 3, 1) := by decide +kernel
theorem dX12_volume_26 : decode cX12_volume 26 = .ok (.invokevirtual 572, 3) := by decide +kernel
theorem dX12_volume_29 : decode cX12_volume 29 = .ok (.goto 6, 3) := by decide +kernel
theorem dX12_volume_32 : decode cX12_volume 32 = .ok (.ldc2_w 492, 3) := by decide +kernel
theorem dX12_volume_35 : decode cX12_volume 35 = .ok (.lreturn, 1) := by decide +kernel
theorem dX12_depth_0 : decode cX12_depth 0 = .ok (.iload_n 1, 1) := by decide +kernel
theorem dX12_depth_1 : decode cX12_depth 1 = .ok (.invokestatic 563, 3) := by decide +kernel
theorem dX12_depth_4 : decode cX12_depth 4 = .ok (.ifCond .eq 23, 3) := by decide +kernel
theorem dX12_depth_7 : decode cX12_depth 7 = .ok (.iload_n 3, 1) := by decide +kernel
theorem dX12_depth_8 : decode cX12_depth 8 = .ok (.i2l, 1) := by decide +kernel
theorem dX12_depth_9 : decode cX12_depth 9 = .ok (.lconst 0, 1) := by decide +kernel
theorem dX12_depth_10 : decode cX12_depth 10 = .ok (.ldc2_w 575, 3) := by decide +kernel
theorem dX12_depth_13 : decode cX12_depth 13 = .ok (.invokestatic 155, 3) := by decide +kernel
theorem dX12_depth_16 : decode cX12_depth 16 = .ok (.ifCond .eq 11, 3) := by decide +kernel
theorem dX12_depth_19 : decode cX12_depth 19 = .ok (.aload_n 0, 1) := by decide +kernel
theorem dX12_depth_20 : decode cX12_depth 20 = .ok (.iload_n 2, 1) := by decide +kernel
theorem dX12_depth_21 : decode cX12_depth 21 = .ok (.invokevirtual 566, 3) := by decide +kernel
theorem dX12_depth_24 : decode cX12_depth 24 = .ok (.ifCond .ne 5, 3) := by decide +kernel
theorem dX12_depth_27 : decode cX12_depth 27 = .ok (.iconst (-1), 1) := by decide +kernel
theorem dX12_depth_28 : decode cX12_depth 28 = .ok (.ireturn, 1) := by decide +kernel
theorem dX12_depth_29 : decode cX12_depth 29 = .ok (.iconst 0, 1) := by decide +kernel
theorem dX12_depth_30 : decode cX12_depth 30 = .ok (.istore 4, 2) := by decide +kernel
theorem dX12_depth_32 : decode cX12_depth 32 = .ok (.iload 4, 2) := by decide +kernel
theorem dX12_depth_34 : decode cX12_depth 34 = .ok (.aload_n 0, 1) := by decide +kernel
theorem dX12_depth_35 : decode cX12_depth 35 = .ok (.getfield 341, 3) := by decide +kernel
theorem dX12_depth_38 : decode cX12_depth 38 = .ok (.if_icmp .ge 25, 3) := by decide +kernel
theorem dX12_depth_41 : decode cX12_depth 41 = .ok (.aload_n 0, 1) := by decide +kernel
theorem dX12_depth_42 : decode cX12_depth 42 = .ok (.iload_n 1, 1) := by decide +kernel
theorem dX12_depth_43 : decode cX12_depth 43 = .ok (.iload 4, 2) := by decide +kernel
theorem dX12_depth_45 : decode cX12_depth 45 = .ok (.invokevirtual 572, 3) := by decide +kernel
theorem dX12_depth_48 : decode cX12_depth 48 = .ok (.iload_n 3, 1) := by decide +kernel
theorem dX12_depth_49 : decode cX12_depth 49 = .ok (.i2l, 1) := by decide +kernel
theorem dX12_depth_50 : decode cX12_depth 50 = .ok (.lcmp, 1) := by decide +kernel
theorem dX12_depth_51 : decode cX12_depth 51 = .ok (.ifCond .lt 6, 3) := by decide +kernel
theorem dX12_depth_54 : decode cX12_depth 54 = .ok (.iload 4, 2) := by decide +kernel
theorem dX12_depth_56 : decode cX12_depth 56 = .ok (.ireturn, 1) := by decide +kernel
theorem dX12_depth_57 : decode cX12_depth 57 = .ok (.iinc 4 1, 3) := by decide +kernel
theorem dX12_depth_60 : decode cX12_depth 60 = .ok (.goto (-28), 3) := by decide +kernel
theorem dX12_depth_63 : decode cX12_depth 63 = .ok (.bipush (-2), 2) := by decide +kernel
theorem dX12_depth_65 : decode cX12_depth 65 = .ok (.ireturn, 1) := by decide +kernel
theorem dX12_pace_0 : decode cX12_pace 0 = .ok (.aload_n 0, 1) := by decide +kernel
theorem dX12_pace_1 : decode cX12_pace 1 = .ok (.getfield 338, 3) := by decide +kernel
theorem dX12_pace_4 : decode cX12_pace 4 = .ok (.ifCond .le 37, 3) := by decide +kernel
theorem dX12_pace_7 : decode cX12_pace 7 = .ok (.iload_n 1, 1) := by decide +kernel
theorem dX12_pace_8 : decode cX12_pace 8 = .ok (.i2l, 1) := by decide +kernel
theorem dX12_pace_9 : decode cX12_pace 9 = .ok (.lconst 1, 1) := by decide +kernel
theorem dX12_pace_10 : decode cX12_pace 10 = .ok (.ldc2_w 153, 3) := by decide +kernel
theorem dX12_pace_13 : decode cX12_pace 13 = .ok (.invokestatic 155, 3) := by decide +kernel
theorem dX12_pace_16 : decode cX12_pace 16 = .ok (.ifCond .eq 25, 3) := by decide +kernel
theorem dX12_pace_19 : decode cX12_pace 19 = .ok (.iload_n 1, 1) := by decide +kernel
theorem dX12_pace_20 : decode cX12_pace 20 = .ok (.i2l, 1) := by decide +kernel
theorem dX12_pace_21 : decode cX12_pace 21 = .ok (.aload_n 0, 1) := by decide +kernel
theorem dX12_pace_22 : decode cX12_pace 22 = .ok (.getfield 338, 3) := by decide +kernel
theorem dX12_pace_25 : decode cX12_pace 25 = .ok (.iconst 1, 1) := by decide +kernel
theorem dX12_pace_26 : decode cX12_pace 26 = .ok (.isub, 1) := by decide +kernel
theorem dX12_pace_27 : decode cX12_pace 27 = .ok (.i2l, 1) := by decide +kernel
theorem dX12_pace_28 : decode cX12_pace 28 = .ok (.lmul, 1) := by decide +kernel
theorem dX12_pace_29 : decode cX12_pace 29 = .ok (.aload_n 0, 1) := by decide +kernel
theorem dX12_pace_30 : decode cX12_pace 30 = .ok (.getfield 13, 3) := by decide +kernel
theorem dX12_pace_33 : decode cX12_pace 33 = .ok (.i2l, 1) := by decide +kernel
theorem dX12_pace_34 : decode cX12_pace 34 = .ok (.lmul, 1) := by decide +kernel
theorem dX12_pace_35 : decode cX12_pace 35 = .ok (.invokestatic 579, 3) := by decide +kernel
theorem dX12_pace_38 : decode cX12_pace 38 = .ok (.goto 4, 3) := by decide +kernel
theorem dX12_pace_41 : decode cX12_pace 41 = .ok (.iconst (-1), 1) := by decide +kernel
theorem dX12_pace_42 : decode cX12_pace 42 = .ok (.ireturn, 1) := by decide +kernel
theorem dX12_length_0 : decode cX12_length 0 = .ok (.aload_n 0, 1) := by decide +kernel
theorem dX12_length_1 : decode cX12_length 1 = .ok (.iload_n 1, 1) := by decide +kernel
theorem dX12_length_2 : decode cX12_length 2 = .ok (.iload_n 2, 1) := by decide +kernel
theorem dX12_length_3 : decode cX12_length 3 = .ok (.invokevirtual 511, 3) := by decide +kernel
theorem dX12_length_6 : decode cX12_length 6 = .ok (.ifCond .eq 18, 3) := by decide +kernel
theorem dX12_length_9 : decode cX12_length 9 = .ok (.aload_n 0, 1) := by decide +kernel
theorem dX12_length_10 : decode cX12_length 10 = .ok (.iload_n 1, 1) := by decide +kernel
theorem dX12_length_11 : decode cX12_length 11 = .ok (.iconst 0, 1) := by decide +kernel
theorem dX12_length_12 : decode cX12_length 12 = .ok (.aload_n 0, 1) := by decide +kernel
theorem dX12_length_13 : decode cX12_length 13 = .ok (.getfield 338, 3) := by decide +kernel
theorem dX12_length_16 : decode cX12_length 16 = .ok (.iconst 1, 1) := by decide +kernel
theorem dX12_length_17 : decode cX12_length 17 = .ok (.isub, 1) := by decide +kernel
theorem dX12_length_18 : decode cX12_length 18 = .ok (.invokevirtual 586, 3) := by decide +kernel
theorem dX12_length_21 : decode cX12_length 21 = .ok (.goto 4, 3) := by decide +kernel
theorem dX12_length_24 : decode cX12_length 24 = .ok (.iconst (-1), 1) := by decide +kernel
theorem dX12_length_25 : decode cX12_length 25 = .ok (.ireturn, 1) := by decide +kernel
theorem dX12_joints_0 : decode cX12_joints 0 = .ok (.aload_n 0, 1) := by decide +kernel
theorem dX12_joints_1 : decode cX12_joints 1 = .ok (.iload_n 1, 1) := by decide +kernel
theorem dX12_joints_2 : decode cX12_joints 2 = .ok (.invokevirtual 347, 3) := by decide +kernel
theorem dX12_joints_5 : decode cX12_joints 5 = .ok (.ifCond .eq 28, 3) := by decide +kernel
theorem dX12_joints_8 : decode cX12_joints 8 = .ok (.iload_n 2, 1) := by decide +kernel
theorem dX12_joints_9 : decode cX12_joints 9 = .ok (.invokestatic 484, 3) := by decide +kernel
theorem dX12_joints_12 : decode cX12_joints 12 = .ok (.ifCond .eq 21, 3) := by decide +kernel
theorem dX12_joints_15 : decode cX12_joints 15 = .ok (.iload_n 3, 1) := by decide +kernel
theorem dX12_joints_16 : decode cX12_joints 16 = .ok (.i2l, 1) := by decide +kernel
theorem dX12_joints_17 : decode cX12_joints 17 = .ok (.lconst 1, 1) := by decide +kernel
theorem dX12_joints_18 : decode cX12_joints 18 = .ok (.ldc2_w 598, 3) := by decide +kernel
theorem dX12_joints_21 : decode cX12_joints 21 = .ok (.invokestatic 155, 3) := by decide +kernel
theorem dX12_joints_24 : decode cX12_joints 24 = .ok (.ifCond .eq 9, 3) := by decide +kernel
theorem dX12_joints_27 : decode cX12_joints 27 = .ok (.iload 4, 2) := by decide +kernel
theorem dX12_joints_29 : decode cX12_joints 29 = .ok (.iconst (-1), 1) := by decide +kernel
theorem dX12_joints_30 : decode cX12_joints 30 = .ok (.if_icmp .ge 6, 3) := by decide +kernel
theorem dX12_joints_33 : decode cX12_joints 33 = .ok (.bipush (-3), 2) := by decide +kernel
theorem dX12_joints_35 : decode cX12_joints 35 = .ok (.ireturn, 1) := by decide +kernel
theorem dX12_joints_36 : decode cX12_joints 36 = .ok (.iconst 0, 1) := by decide +kernel
theorem dX12_joints_37 : decode cX12_joints 37 = .ok (.istore 5, 2) := by decide +kernel
theorem dX12_joints_39 : decode cX12_joints 39 = .ok (.iload 5, 2) := by decide +kernel
theorem dX12_joints_41 : decode cX12_joints 41 = .ok (.iload_n 1, 1) := by decide +kernel
theorem dX12_joints_42 : decode cX12_joints 42 = .ok (.if_icmp .gt 22, 3) := by decide +kernel
theorem dX12_joints_45 : decode cX12_joints 45 = .ok (.aload_n 0, 1) := by decide +kernel
theorem dX12_joints_46 : decode cX12_joints 46 = .ok (.iload 5, 2) := by decide +kernel
theorem dX12_joints_48 : decode cX12_joints 48 = .ok (.iload_n 2, 1) := by decide +kernel
theorem dX12_joints_49 : decode cX12_joints 49 = .ok (.invokevirtual 511, 3) := by decide +kernel
theorem dX12_joints_52 : decode cX12_joints 52 = .ok (.ifCond .ne 6, 3) := by decide +kernel
theorem dX12_joints_55 : decode cX12_joints 55 = .ok (.bipush (-3), 2) := by decide +kernel
theorem dX12_joints_57 : decode cX12_joints 57 = .ok (.ireturn, 1) := by decide +kernel
theorem dX12_joints_58 : decode cX12_joints 58 = .ok (.iinc 5 1, 3) := by decide +kernel
theorem dX12_joints_61 : decode cX12_joints 61 = .ok (.goto (-22), 3) := by decide +kernel
theorem dX12_joints_64 : decode cX12_joints 64 = .ok (.aload_n 0, 1) := by decide +kernel
theorem dX12_joints_65 : decode cX12_joints 65 = .ok (.iconst 0, 1) := by decide +kernel
theorem dX12_joints_66 : decode cX12_joints 66 = .ok (.putfield 595, 3) := by decide +kernel
theorem dX12_joints_69 : decode cX12_joints 69 = .ok (.iconst 0, 1) := by decide +kernel
theorem dX12_joints_70 : decode cX12_joints 70 = .ok (.istore 5, 2) := by decide +kernel
theorem dX12_joints_72 : decode cX12_joints 72 = .ok (.iload 5, 2) := by decide +kernel
theorem dX12_joints_74 : decode cX12_joints 74 = .ok (.iload_n 1, 1) := by decide +kernel
theorem dX12_joints_75 : decode cX12_joints 75 = .ok (.if_icmp .gt 30, 3) := by decide +kernel
theorem dX12_joints_78 : decode cX12_joints 78 = .ok (.aload_n 0, 1) := by decide +kernel
theorem dX12_joints_79 : decode cX12_joints 79 = .ok (.aload_n 0, 1) := by decide +kernel
theorem dX12_joints_80 : decode cX12_joints 80 = .ok (.getfield 595, 3) := by decide +kernel
theorem dX12_joints_83 : decode cX12_joints 83 = .ok (.putfield 589, 3) := by decide +kernel
theorem dX12_joints_86 : decode cX12_joints 86 = .ok (.aload_n 0, 1) := by decide +kernel
theorem dX12_joints_87 : decode cX12_joints 87 = .ok (.iload 5, 2) := by decide +kernel
theorem dX12_joints_89 : decode cX12_joints 89 = .ok (.iload_n 3, 1) := by decide +kernel
theorem dX12_joints_90 : decode cX12_joints 90 = .ok (.invokevirtual 600, 3) := by decide +kernel
theorem dX12_joints_93 : decode cX12_joints 93 = .ok (.ifCond .ne 6, 3) := by decide +kernel
theorem dX12_joints_96 : decode cX12_joints 96 = .ok (.bipush (-2), 2) := by decide +kernel
theorem dX12_joints_98 : decode cX12_joints 98 = .ok (.ireturn, 1) := by decide +kernel
theorem dX12_joints_99 : decode cX12_joints 99 = .ok (.iinc 5 1, 3) := by decide +kernel
theorem dX12_joints_102 : decode cX12_joints 102 = .ok (.goto (-30), 3) := by decide +kernel
theorem dX12_joints_105 : decode cX12_joints 105 = .ok (.iconst 0, 1) := by decide +kernel
theorem dX12_joints_106 : decode cX12_joints 106 = .ok (.istore 5, 2) := by decide +kernel
theorem dX12_joints_108 : decode cX12_joints 108 = .ok (.iconst 0, 1) := by decide +kernel
theorem dX12_joints_109 : decode cX12_joints 109 = .ok (.istore 6, 2) := by decide +kernel
theorem dX12_joints_111 : decode cX12_joints 111 = .ok (.iload 6, 2) := by decide +kernel
theorem dX12_joints_113 : decode cX12_joints 113 = .ok (.aload_n 0, 1) := by decide +kernel
theorem dX12_joints_114 : decode cX12_joints 114 = .ok (.getfield 338, 3) := by decide +kernel
theorem dX12_joints_117 : decode cX12_joints 117 = .ok (.if_icmp .ge 38, 3) := by decide +kernel
theorem dX12_joints_120 : decode cX12_joints 120 = .ok (.aload_n 0, 1) := by decide +kernel
theorem dX12_joints_121 : decode cX12_joints 121 = .ok (.getfield 595, 3) := by decide +kernel
theorem dX12_joints_124 : decode cX12_joints 124 = .ok (.i2l, 1) := by decide +kernel
theorem dX12_joints_125 : decode cX12_joints 125 = .ok (.iload 6, 2) := by decide +kernel
theorem dX12_joints_127 : decode cX12_joints 127 = .ok (.invokestatic 356, 3) := by decide +kernel
theorem dX12_joints_130 : decode cX12_joints 130 = .ok (.ifCond .ne 6, 3) := by decide +kernel
theorem dX12_joints_133 : decode cX12_joints 133 = .ok (.goto 16, 3) := by decide +kernel
theorem dX12_joints_136 : decode cX12_joints 136 = .ok (.iload 5, 2) := by decide +kernel
theorem dX12_joints_138 : decode cX12_joints 138 = .ok (.iload 4, 2) := by decide +kernel
theorem dX12_joints_140 : decode cX12_joints 140 = .ok (.if_icmp .ne 6, 3) := by decide +kernel
theorem dX12_joints_143 : decode cX12_joints 143 = .ok (.iload 6, 2) := by decide +kernel
theorem dX12_joints_145 : decode cX12_joints 145 = .ok (.ireturn, 1) := by decide +kernel
theorem dX12_joints_146 : decode cX12_joints 146 = .ok (.iinc 5 1, 3) := by decide +kernel
theorem dX12_joints_149 : decode cX12_joints 149 = .ok (.iinc 6 1, 3) := by decide +kernel
theorem dX12_joints_152 : decode cX12_joints 152 = .ok (.goto (-41), 3) := by decide +kernel
theorem dX12_joints_155 : decode cX12_joints 155 = .ok (.iload 4, 2) := by decide +kernel
theorem dX12_joints_157 : decode cX12_joints 157 = .ok (.iconst (-1), 1) := by decide +kernel
theorem dX12_joints_158 : decode cX12_joints 158 = .ok (.if_icmp .ne 8, 3) := by decide +kernel
theorem dX12_joints_161 : decode cX12_joints 161 = .ok (.iload 5, 2) := by decide +kernel
theorem dX12_joints_163 : decode cX12_joints 163 = .ok (.goto 5, 3) := by decide +kernel
theorem dX12_joints_166 : decode cX12_joints 166 = .ok (.bipush (-3), 2) := by decide +kernel
theorem dX12_joints_168 : decode cX12_joints 168 = .ok (.ireturn, 1) := by decide +kernel
theorem dX12_lasts_0 : decode cX12_lasts 0 = .ok (.iload_n 1, 1) := by decide +kernel
theorem dX12_lasts_1 : decode cX12_lasts 1 = .ok (.i2l, 1) := by decide +kernel
theorem dX12_lasts_2 : decode cX12_lasts 2 = .ok (.lconst 1, 1) := by decide +kernel
theorem dX12_lasts_3 : decode cX12_lasts 3 = .ok (.ldc2_w 603, 3) := by decide +kernel
theorem dX12_lasts_6 : decode cX12_lasts 6 = .ok (.invokestatic 155, 3) := by decide +kernel
theorem dX12_lasts_9 : decode cX12_lasts 9 = .ok (.ifCond .eq 15, 3) := by decide +kernel
theorem dX12_lasts_12 : decode cX12_lasts 12 = .ok (.iload_n 2, 1) := by decide +kernel
theorem dX12_lasts_13 : decode cX12_lasts 13 = .ok (.i2l, 1) := by decide +kernel
theorem dX12_lasts_14 : decode cX12_lasts 14 = .ok (.lconst 0, 1) := by decide +kernel
theorem dX12_lasts_15 : decode cX12_lasts 15 = .ok (.ldc2_w 605, 3) := by decide +kernel
theorem dX12_lasts_18 : decode cX12_lasts 18 = .ok (.invokestatic 155, 3) := by decide +kernel
theorem dX12_lasts_21 : decode cX12_lasts 21 = .ok (.ifCond .ne 5, 3) := by decide +kernel
theorem dX12_lasts_24 : decode cX12_lasts 24 = .ok (.iconst (-1), 1) := by decide +kernel
theorem dX12_lasts_25 : decode cX12_lasts 25 = .ok (.ireturn, 1) := by decide +kernel
theorem dX12_lasts_26 : decode cX12_lasts 26 = .ok (.iload_n 1, 1) := by decide +kernel
theorem dX12_lasts_27 : decode cX12_lasts 27 = .ok (.istore_n 3, 1) := by decide +kernel
theorem dX12_lasts_28 : decode cX12_lasts 28 = .ok (.iconst 0, 1) := by decide +kernel
theorem dX12_lasts_29 : decode cX12_lasts 29 = .ok (.istore 4, 2) := by decide +kernel
theorem dX12_lasts_31 : decode cX12_lasts 31 = .ok (.iload 4, 2) := by decide +kernel
theorem dX12_lasts_33 : decode cX12_lasts 33 = .ok (.sipush 2000, 3) := by decide +kernel
theorem dX12_lasts_36 : decode cX12_lasts 36 = .ok (.if_icmp .ge 52, 3) := by decide +kernel
theorem dX12_lasts_39 : decode cX12_lasts 39 = .ok (.aload_n 0, 1) := by decide +kernel
theorem dX12_lasts_40 : decode cX12_lasts 40 = .ok (.invokevirtual 360, 3) := by decide +kernel
theorem dX12_lasts_43 : decode cX12_lasts 43 = .ok (.aload_n 0, 1) := by decide +kernel
theorem dX12_lasts_44 : decode cX12_lasts 44 = .ok (.iload 4, 2) := by decide +kernel
theorem dX12_lasts_46 : decode cX12_lasts 46 = .ok (.putfield 315, 3) := by decide +kernel
theorem dX12_lasts_49 : decode cX12_lasts 49 = .ok (.aload_n 0, 1) := by decide +kernel
theorem dX12_lasts_50 : decode cX12_lasts 50 = .ok (.iload_n 3, 1) := by decide +kernel
theorem dX12_lasts_51 : decode cX12_lasts 51 = .ok (.putfield 318, 3) := by decide +kernel
theorem dX12_lasts_54 : decode cX12_lasts 54 = .ok (.aload_n 0, 1) := by decide +kernel
theorem dX12_lasts_55 : decode cX12_lasts 55 = .ok (.iload_n 2, 1) := by decide +kernel
theorem dX12_lasts_56 : decode cX12_lasts 56 = .ok (.putfield 321, 3) := by decide +kernel
theorem dX12_lasts_59 : decode cX12_lasts 59 = .ok (.iload_n 3, 1) := by decide +kernel
theorem dX12_lasts_60 : decode cX12_lasts 60 = .ok (.aload_n 0, 1) := by decide +kernel
theorem dX12_lasts_61 : decode cX12_lasts 61 = .ok (.iconst 2, 1) := by decide +kernel
theorem dX12_lasts_62 : decode cX12_lasts 62 = .ok (.bipush 101, 2) := by decide +kernel
theorem dX12_lasts_64 : decode cX12_lasts 64 = .ok (.iconst 0, 1) := by decide +kernel
theorem dX12_lasts_65 : decode cX12_lasts 65 = .ok (.sipush 1000, 3) := by decide +kernel
theorem dX12_lasts_68 : decode cX12_lasts 68 = .ok (.invokevirtual 379, 3) := by decide +kernel
theorem dX12_lasts_71 : decode cX12_lasts 71 = .ok (.isub, 1) := by decide +kernel
theorem dX12_lasts_72 : decode cX12_lasts 72 = .ok (.istore_n 3, 1) := by decide +kernel
theorem dX12_lasts_73 : decode cX12_lasts 73 = .ok (.iload_n 3, 1) := by decide +kernel
theorem dX12_lasts_74 : decode cX12_lasts 74 = .ok (.ifCond .gt 8, 3) := by decide +kernel
theorem dX12_lasts_77 : decode cX12_lasts 77 = .ok (.iload 4, 2) := by decide +kernel
theorem dX12_lasts_79 : decode cX12_lasts 79 = .ok (.iconst 1, 1) := by decide +kernel
theorem dX12_lasts_80 : decode cX12_lasts 80 = .ok (.iadd, 1) := by decide +kernel
theorem dX12_lasts_81 : decode cX12_lasts 81 = .ok (.ireturn, 1) := by decide +kernel
theorem dX12_lasts_82 : decode cX12_lasts 82 = .ok (.iinc 4 1, 3) := by decide +kernel
theorem dX12_lasts_85 : decode cX12_lasts 85 = .ok (.goto (-54), 3) := by decide +kernel
theorem dX12_lasts_88 : decode cX12_lasts 88 = .ok (.bipush (-2), 2) := by decide +kernel
theorem dX12_lasts_90 : decode cX12_lasts 90 = .ok (.ireturn, 1) := by decide +kernel
theorem dX12_check_0 : decode cX12_check 0 = .ok (.aload_n 0, 1) := by decide +kernel
theorem dX12_check_1 : decode cX12_check 1 = .ok (.iload_n 1, 1) := by decide +kernel
theorem dX12_check_2 : decode cX12_check 2 = .ok (.iload_n 2, 1) := by decide +kernel
theorem dX12_check_3 : decode cX12_check 3 = .ok (.invokevirtual 511, 3) := by decide +kernel
theorem dX12_check_6 : decode cX12_check 6 = .ok (.ifCond .eq 17, 3) := by decide +kernel
theorem dX12_check_9 : decode cX12_check 9 = .ok (.iload_n 3, 1) := by decide +kernel
theorem dX12_check_10 : decode cX12_check 10 = .ok (.ifCond .lt 13, 3) := by decide +kernel
theorem dX12_check_13 : decode cX12_check 13 = .ok (.iload_n 3, 1) := by decide +kernel
theorem dX12_check_14 : decode cX12_check 14 = .ok (.aload_n 0, 1) := by decide +kernel
theorem dX12_check_15 : decode cX12_check 15 = .ok (.getfield 162, 3) := by decide +kernel
theorem dX12_check_18 : decode cX12_check 18 = .ok (.iconst 4, 1) := by decide +kernel
theorem dX12_check_19 : decode cX12_check 19 = .ok (.idiv, 1) := by decide +kernel
theorem dX12_check_20 : decode cX12_check 20 = .ok (.if_icmp .le 6, 3) := by decide +kernel
theorem dX12_check_23 : decode cX12_check 23 = .ok (.bipush (-2), 2) := by decide +kernel
theorem dX12_check_25 : decode cX12_check 25 = .ok (.ireturn, 1) := by decide +kernel
theorem dX12_check_26 : decode cX12_check 26 = .ok (.aload_n 0, 1) := by decide +kernel
theorem dX12_check_27 : decode cX12_check 27 = .ok (.iconst 0, 1) := by decide +kernel
theorem dX12_check_28 : decode cX12_check 28 = .ok (.putfield 162, 3) := by decide +kernel
theorem dX12_check_31 : decode cX12_check 31 = .ok (.iconst 0, 1) := by decide +kernel
theorem dX12_check_32 : decode cX12_check 32 = .ok (.istore 4, 2) := by decide +kernel
theorem dX12_check_34 : decode cX12_check 34 = .ok (.iload 4, 2) := by decide +kernel
theorem dX12_check_36 : decode cX12_check 36 = .ok (.aload_n 0, 1) := by decide +kernel
theorem dX12_check_37 : decode cX12_check 37 = .ok (.getfield 338, 3) := by decide +kernel
theorem dX12_check_40 : decode cX12_check 40 = .ok (.if_icmp .ge 36, 3) := by decide +kernel
theorem dX12_check_43 : decode cX12_check 43 = .ok (.iload 4, 2) := by decide +kernel
theorem dX12_check_45 : decode cX12_check 45 = .ok (.iload_n 3, 1) := by decide +kernel
theorem dX12_check_46 : decode cX12_check 46 = .ok (.if_icmp .ne 5, 3) := by decide +kernel
theorem dX12_check_49 : decode cX12_check 49 = .ok (.iload_n 3, 1) := by decide +kernel
theorem dX12_check_50 : decode cX12_check 50 = .ok (.ireturn, 1) := by decide +kernel
theorem dX12_check_51 : decode cX12_check 51 = .ok (.aload_n 0, 1) := by decide +kernel
theorem dX12_check_52 : decode cX12_check 52 = .ok (.iload 4, 2) := by decide +kernel
theorem dX12_check_54 : decode cX12_check 54 = .ok (.invokevirtual 607, 3) := by decide +kernel
theorem dX12_check_57 : decode cX12_check 57 = .ok (.aload_n 0, 1) := by decide +kernel
theorem dX12_check_58 : decode cX12_check 58 = .ok (.iload_n 1, 1) := by decide +kernel
theorem dX12_check_59 : decode cX12_check 59 = .ok (.iload 4, 2) := by decide +kernel
theorem dX12_check_61 : decode cX12_check 61 = .ok (.invokevirtual 516, 3) := by decide +kernel
theorem dX12_check_64 : decode cX12_check 64 = .ok (.if_icmp .eq 6, 3) := by decide +kernel
theorem dX12_check_67 : decode cX12_check 67 = .ok (.iload 4, 2) := by decide +kernel
theorem dX12_check_69 : decode cX12_check 69 = .ok (.ireturn, 1) := by decide +kernel
theorem dX12_check_70 : decode cX12_check 70 = .ok (.iinc 4 1, 3) := by decide +kernel
theorem dX12_check_73 : decode cX12_check 73 = .ok (.goto (-39), 3) := by decide +kernel
theorem dX12_check_76 : decode cX12_check 76 = .ok (.iload_n 3, 1) := by decide +kernel
theorem dX12_check_77 : decode cX12_check 77 = .ok (.aload_n 0, 1) := by decide +kernel
theorem dX12_check_78 : decode cX12_check 78 = .ok (.getfield 338, 3) := by decide +kernel
theorem dX12_check_81 : decode cX12_check 81 = .ok (.if_icmp .ne 7, 3) := by decide +kernel
theorem dX12_check_84 : decode cX12_check 84 = .ok (.iconst (-1), 1) := by decide +kernel
theorem dX12_check_85 : decode cX12_check 85 = .ok (.goto 7, 3) := by decide +kernel
theorem dX12_check_88 : decode cX12_check 88 = .ok (.aload_n 0, 1) := by decide +kernel
theorem dX12_check_89 : decode cX12_check 89 = .ok (.getfield 338, 3) := by decide +kernel
theorem dX12_check_92 : decode cX12_check 92 = .ok (.ireturn, 1) := by decide +kernel
theorem dX12_count_0 : decode cX12_count 0 = .ok (.aload_n 0, 1) := by decide +kernel
theorem dX12_count_1 : decode cX12_count 1 = .ok (.iload_n 1, 1) := by decide +kernel
theorem dX12_count_2 : decode cX12_count 2 = .ok (.bipush 10, 2) := by decide +kernel
theorem dX12_count_4 : decode cX12_count 4 = .ok (.isub, 1) := by decide +kernel
theorem dX12_count_5 : decode cX12_count 5 = .ok (.invokevirtual 415, 3) := by decide +kernel
theorem dX12_count_8 : decode cX12_count 8 = .ok (.ifCond .eq 12, 3) := by decide +kernel
theorem dX12_count_11 : decode cX12_count 11 = .ok (.aload_n 0, 1) := by decide +kernel
theorem dX12_count_12 : decode cX12_count 12 = .ok (.iload_n 1, 1) := by decide +kernel
theorem dX12_count_13 : decode cX12_count 13 = .ok (.bipush 10, 2) := by decide +kernel
theorem dX12_count_15 : decode cX12_count 15 = .ok (.isub, 1) := by decide +kernel
theorem dX12_count_16 : decode cX12_count 16 = .ok (.invokevirtual 430, 3) := by decide +kernel
theorem dX12_count_19 : decode cX12_count 19 = .ok (.ireturn, 1) := by decide +kernel
theorem dX12_count_20 : decode cX12_count 20 = .ok (.iload_n 1, 1) := by decide +kernel
theorem dX12_count_21 : decode cX12_count 21 = .ok (.tableswitch 111 0 9 #[55, 60, 65, 70, 75, 80, 87, 94, 101, 106], 55) := by decide +kernel
theorem dX12_count_76 : decode cX12_count 76 = .ok (.aload_n 0, 1) := by decide +kernel
theorem dX12_count_77 : decode cX12_count 77 = .ok (.getfield 338, 3) := by decide +kernel
theorem dX12_count_80 : decode cX12_count 80 = .ok (.ireturn, 1) := by decide +kernel
theorem dX12_count_81 : decode cX12_count 81 = .ok (.aload_n 0, 1) := by decide +kernel
theorem dX12_count_82 : decode cX12_count 82 = .ok (.getfield 341, 3) := by decide +kernel
theorem dX12_count_85 : decode cX12_count 85 = .ok (.ireturn, 1) := by decide +kernel
theorem dX12_count_86 : decode cX12_count 86 = .ok (.aload_n 0, 1) := by decide +kernel
theorem dX12_count_87 : decode cX12_count 87 = .ok (.invokevirtual 399, 3) := by decide +kernel
theorem dX12_count_90 : decode cX12_count 90 = .ok (.ireturn, 1) := by decide +kernel
theorem dX12_count_91 : decode cX12_count 91 = .ok (.aload_n 0, 1) := by decide +kernel
theorem dX12_count_92 : decode cX12_count 92 = .ok (.getfield 17, 3) := by decide +kernel
theorem dX12_count_95 : decode cX12_count 95 = .ok (.ireturn, 1) := by decide +kernel
theorem dX12_count_96 : decode cX12_count 96 = .ok (.aload_n 0, 1) := by decide +kernel
theorem dX12_count_97 : decode cX12_count 97 = .ok (.getfield 162, 3) := by decide +kernel
theorem dX12_count_100 : decode cX12_count 100 = .ok (.ireturn, 1) := by decide +kernel
theorem dX12_count_101 : decode cX12_count 101 = .ok (.aload_n 0, 1) := by decide +kernel
theorem dX12_count_102 : decode cX12_count 102 = .ok (.getfield 20, 3) := by decide +kernel
theorem dX12_count_105 : decode cX12_count 105 = .ok (.iconst 0, 1) := by decide +kernel
theorem dX12_count_106 : decode cX12_count 106 = .ok (.iaload, 1) := by decide +kernel
theorem dX12_count_107 : decode cX12_count 107 = .ok (.ireturn, 1) := by decide +kernel
theorem dX12_count_108 : decode cX12_count 108 = .ok (.aload_n 0, 1) := by decide +kernel
theorem dX12_count_109 : decode cX12_count 109 = .ok (.getfield 20, 3) := by decide +kernel
theorem dX12_count_112 : decode cX12_count 112 = .ok (.iconst 1, 1) := by decide +kernel
theorem dX12_count_113 : decode cX12_count 113 = .ok (.iaload, 1) := by decide +kernel
theorem dX12_count_114 : decode cX12_count 114 = .ok (.ireturn, 1) := by decide +kernel
theorem dX12_count_115 : decode cX12_count 115 = .ok (.aload_n 0, 1) := by decide +kernel
theorem dX12_count_116 : decode cX12_count 116 = .ok (.getfield 20, 3) := by decide +kernel
theorem dX12_count_119 : decode cX12_count 119 = .ok (.iconst 2, 1) := by decide +kernel
theorem dX12_count_120 : decode cX12_count 120 = .ok (.iaload, 1) := by decide +kernel
theorem dX12_count_121 : decode cX12_count 121 = .ok (.ireturn, 1) := by decide +kernel
theorem dX12_count_122 : decode cX12_count 122 = .ok (.aload_n 0, 1) := by decide +kernel
theorem dX12_count_123 : decode cX12_count 123 = .ok (.getfield 369, 3) := by decide +kernel
theorem dX12_count_126 : decode cX12_count 126 = .ok (.ireturn, 1) := by decide +kernel
theorem dX12_count_127 : decode cX12_count 127 = .ok (.aload_n 0, 1) := by decide +kernel
theorem dX12_count_128 : decode cX12_count 128 = .ok (.invokevirtual 557, 3) := by decide +kernel
theorem dX12_count_131 : decode cX12_count 131 = .ok (.ireturn, 1) := by decide +kernel
theorem dX12_count_132 : decode cX12_count 132 = .ok (.iconst (-1), 1) := by decide +kernel
theorem dX12_count_133 : decode cX12_count 133 = .ok (.ireturn, 1) := by decide +kernel
theorem dJ7_fill_53178_0 : decode cJ7_fill_53178 0 = .ok (.iconst 0, 1) := by decide +kernel
theorem dJ7_fill_53178_1 : decode cJ7_fill_53178 1 = .ok (.istore_n 2, 1) := by decide +kernel
theorem dJ7_fill_53178_2 : decode cJ7_fill_53178 2 = .ok (.aload_n 0, 1) := by decide +kernel
theorem dJ7_fill_53178_3 : decode cJ7_fill_53178 3 = .ok (.arraylength, 1) := by decide +kernel
theorem dJ7_fill_53178_4 : decode cJ7_fill_53178 4 = .ok (.istore_n 3, 1) := by decide +kernel
theorem dJ7_fill_53178_5 : decode cJ7_fill_53178 5 = .ok (.iload_n 2, 1) := by decide +kernel
theorem dJ7_fill_53178_6 : decode cJ7_fill_53178 6 = .ok (.iload_n 3, 1) := by decide +kernel
theorem dJ7_fill_53178_7 : decode cJ7_fill_53178 7 = .ok (.if_icmp .ge 13, 3) := by decide +kernel
theorem dJ7_fill_53178_10 : decode cJ7_fill_53178 10 = .ok (.aload_n 0, 1) := by decide +kernel
theorem dJ7_fill_53178_11 : decode cJ7_fill_53178 11 = .ok (.iload_n 2, 1) := by decide +kernel
theorem dJ7_fill_53178_12 : decode cJ7_fill_53178 12 = .ok (.iload_n 1, 1) := by decide +kernel
theorem dJ7_fill_53178_13 : decode cJ7_fill_53178 13 = .ok (.iastore, 1) := by decide +kernel
theorem dJ7_fill_53178_14 : decode cJ7_fill_53178 14 = .ok (.iinc 2 1, 3) := by decide +kernel
theorem dJ7_fill_53178_17 : decode cJ7_fill_53178 17 = .ok (.goto (-12), 3) := by decide +kernel
theorem dJ7_fill_53178_20 : decode cJ7_fill_53178 20 = .ok (.return_, 1) := by decide +kernel
end
