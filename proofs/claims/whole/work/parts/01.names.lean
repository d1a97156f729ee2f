-- ===== PART A: goes FIRST, ahead of the names: the tables' words, and 'selects' of the private methods out of them =====
/-- a private method of a class that the tables say can be made, by its rows of tables_1 -/
def lw_okq (q : MethodName × Nat) : Prop := (q.1.cls ≠ "java/lang/invoke/MethodHandle" ∧ q.1.cls ≠ "java/lang/invoke/VarHandle") ∧ Cond.instantiable q.1.cls q.2 ∈ tables_1 ∧ Cond.privateMethod q.1 ∈ tables_1 ∧ Cond.instanceMethod q.1 ∈ tables_1
theorem lw_p0 : lw_okq (⟨"GoatMatches$Gorge", "columnOf", "(I)I"⟩, 20) := ⟨⟨by decide +kernel, by decide +kernel⟩, List.mem_of_getElem? (i := 30) (by decide +kernel), List.mem_of_getElem? (i := 51) (by decide +kernel), List.mem_of_getElem? (i := 52) (by decide +kernel)⟩
theorem lw_p1 : lw_okq (⟨"GoatMatches$Gorge", "rowOf", "(I)I"⟩, 20) := ⟨⟨by decide +kernel, by decide +kernel⟩, List.mem_of_getElem? (i := 30) (by decide +kernel), List.mem_of_getElem? (i := 55) (by decide +kernel), List.mem_of_getElem? (i := 56) (by decide +kernel)⟩
theorem lw_p2 : lw_okq (⟨"GoatMatches", "settle", "()V"⟩, 14) := ⟨⟨by decide +kernel, by decide +kernel⟩, List.mem_of_getElem? (i := 22) (by decide +kernel), List.mem_of_getElem? (i := 487) (by decide +kernel), List.mem_of_getElem? (i := 488) (by decide +kernel)⟩
theorem lw_p3 : lw_okq (⟨"GoatMatches$Tape", "readWord", "()V"⟩, 8) := ⟨⟨by decide +kernel, by decide +kernel⟩, List.mem_of_getElem? (i := 216) (by decide +kernel), List.mem_of_getElem? (i := 585) (by decide +kernel), List.mem_of_getElem? (i := 586) (by decide +kernel)⟩
theorem lw_p4 : lw_okq (⟨"GoatMatches$Tape", "readNumber", "()V"⟩, 8) := ⟨⟨by decide +kernel, by decide +kernel⟩, List.mem_of_getElem? (i := 216) (by decide +kernel), List.mem_of_getElem? (i := 592) (by decide +kernel), List.mem_of_getElem? (i := 593) (by decide +kernel)⟩
theorem lw_p5 : lw_okq (⟨"GoatMatches$Tape", "readSign", "()V"⟩, 8) := ⟨⟨by decide +kernel, by decide +kernel⟩, List.mem_of_getElem? (i := 216) (by decide +kernel), List.mem_of_getElem? (i := 596) (by decide +kernel), List.mem_of_getElem? (i := 597) (by decide +kernel)⟩
theorem lw_p6 : lw_okq (⟨"GoatMatches$Reader", "isSound", "()Z"⟩, 7) := ⟨⟨by decide +kernel, by decide +kernel⟩, List.mem_of_getElem? (i := 307) (by decide +kernel), List.mem_of_getElem? (i := 660) (by decide +kernel), List.mem_of_getElem? (i := 661) (by decide +kernel)⟩
theorem lw_p7 : lw_okq (⟨"GoatMatches$Reader", "line", "()V"⟩, 7) := ⟨⟨by decide +kernel, by decide +kernel⟩, List.mem_of_getElem? (i := 307) (by decide +kernel), List.mem_of_getElem? (i := 664) (by decide +kernel), List.mem_of_getElem? (i := 665) (by decide +kernel)⟩
theorem lw_p8 : lw_okq (⟨"GoatMatches$Reader", "mayBegin", "(I)Z"⟩, 7) := ⟨⟨by decide +kernel, by decide +kernel⟩, List.mem_of_getElem? (i := 307) (by decide +kernel), List.mem_of_getElem? (i := 668) (by decide +kernel), List.mem_of_getElem? (i := 669) (by decide +kernel)⟩
theorem lw_p9 : lw_okq (⟨"GoatMatches$Reader", "fail", "(I)V"⟩, 7) := ⟨⟨by decide +kernel, by decide +kernel⟩, List.mem_of_getElem? (i := 307) (by decide +kernel), List.mem_of_getElem? (i := 672) (by decide +kernel), List.mem_of_getElem? (i := 673) (by decide +kernel)⟩
theorem lw_p10 : lw_okq (⟨"GoatMatches$Reader", "gorgeBody", "()V"⟩, 7) := ⟨⟨by decide +kernel, by decide +kernel⟩, List.mem_of_getElem? (i := 307) (by decide +kernel), List.mem_of_getElem? (i := 677) (by decide +kernel), List.mem_of_getElem? (i := 678) (by decide +kernel)⟩
theorem lw_p11 : lw_okq (⟨"GoatMatches$Reader", "number", "(II)I"⟩, 7) := ⟨⟨by decide +kernel, by decide +kernel⟩, List.mem_of_getElem? (i := 307) (by decide +kernel), List.mem_of_getElem? (i := 681) (by decide +kernel), List.mem_of_getElem? (i := 682) (by decide +kernel)⟩
theorem lw_p12 : lw_okq (⟨"GoatMatches$Reader", "need", "(I)V"⟩, 7) := ⟨⟨by decide +kernel, by decide +kernel⟩, List.mem_of_getElem? (i := 307) (by decide +kernel), List.mem_of_getElem? (i := 685) (by decide +kernel), List.mem_of_getElem? (i := 686) (by decide +kernel)⟩
theorem lw_p13 : lw_okq (⟨"GoatMatches$Reader", "grassBody", "()V"⟩, 7) := ⟨⟨by decide +kernel, by decide +kernel⟩, List.mem_of_getElem? (i := 307) (by decide +kernel), List.mem_of_getElem? (i := 689) (by decide +kernel), List.mem_of_getElem? (i := 690) (by decide +kernel)⟩
theorem lw_p14 : lw_okq (⟨"GoatMatches$Reader", "flockBody", "()V"⟩, 7) := ⟨⟨by decide +kernel, by decide +kernel⟩, List.mem_of_getElem? (i := 307) (by decide +kernel), List.mem_of_getElem? (i := 693) (by decide +kernel), List.mem_of_getElem? (i := 694) (by decide +kernel)⟩
theorem lw_p15 : lw_okq (⟨"GoatMatches$Reader", "wantsBody", "()V"⟩, 7) := ⟨⟨by decide +kernel, by decide +kernel⟩, List.mem_of_getElem? (i := 307) (by decide +kernel), List.mem_of_getElem? (i := 705) (by decide +kernel), List.mem_of_getElem? (i := 706) (by decide +kernel)⟩
def lw_privs_1 : List (MethodName × Nat) := [(⟨"GoatMatches$Gorge", "columnOf", "(I)I"⟩, 20), (⟨"GoatMatches$Gorge", "rowOf", "(I)I"⟩, 20), (⟨"GoatMatches", "settle", "()V"⟩, 14), (⟨"GoatMatches$Tape", "readWord", "()V"⟩, 8), (⟨"GoatMatches$Tape", "readNumber", "()V"⟩, 8), (⟨"GoatMatches$Tape", "readSign", "()V"⟩, 8), (⟨"GoatMatches$Reader", "isSound", "()Z"⟩, 7), (⟨"GoatMatches$Reader", "line", "()V"⟩, 7), (⟨"GoatMatches$Reader", "mayBegin", "(I)Z"⟩, 7), (⟨"GoatMatches$Reader", "fail", "(I)V"⟩, 7), (⟨"GoatMatches$Reader", "gorgeBody", "()V"⟩, 7), (⟨"GoatMatches$Reader", "number", "(II)I"⟩, 7), (⟨"GoatMatches$Reader", "need", "(I)V"⟩, 7), (⟨"GoatMatches$Reader", "grassBody", "()V"⟩, 7), (⟨"GoatMatches$Reader", "flockBody", "()V"⟩, 7), (⟨"GoatMatches$Reader", "wantsBody", "()V"⟩, 7)]
theorem lw_r1 : ∀ q ∈ lw_privs_1, lw_okq q := List.forall_mem_cons.mpr ⟨lw_p0, List.forall_mem_cons.mpr ⟨lw_p1, List.forall_mem_cons.mpr ⟨lw_p2, List.forall_mem_cons.mpr ⟨lw_p3, List.forall_mem_cons.mpr ⟨lw_p4, List.forall_mem_cons.mpr ⟨lw_p5, List.forall_mem_cons.mpr ⟨lw_p6, List.forall_mem_cons.mpr ⟨lw_p7, List.forall_mem_cons.mpr ⟨lw_p8, List.forall_mem_cons.mpr ⟨lw_p9, List.forall_mem_cons.mpr ⟨lw_p10, List.forall_mem_cons.mpr ⟨lw_p11, List.forall_mem_cons.mpr ⟨lw_p12, List.forall_mem_cons.mpr ⟨lw_p13, List.forall_mem_cons.mpr ⟨lw_p14, List.forall_mem_cons.mpr ⟨lw_p15, fun _ h => absurd h List.not_mem_nil⟩⟩⟩⟩⟩⟩⟩⟩⟩⟩⟩⟩⟩⟩⟩⟩
theorem lw_p16 : lw_okq (⟨"GoatMatches$Reader", "named", "()I"⟩, 7) := ⟨⟨by decide +kernel, by decide +kernel⟩, List.mem_of_getElem? (i := 307) (by decide +kernel), List.mem_of_getElem? (i := 709) (by decide +kernel), List.mem_of_getElem? (i := 710) (by decide +kernel)⟩
theorem lw_p17 : lw_okq (⟨"GoatMatches$Reader", "feudBody", "()V"⟩, 7) := ⟨⟨by decide +kernel, by decide +kernel⟩, List.mem_of_getElem? (i := 307) (by decide +kernel), List.mem_of_getElem? (i := 717) (by decide +kernel), List.mem_of_getElem? (i := 718) (by decide +kernel)⟩
theorem lw_p18 : lw_okq (⟨"GoatMatches$Reader", "formula", "(II)V"⟩, 7) := ⟨⟨by decide +kernel, by decide +kernel⟩, List.mem_of_getElem? (i := 307) (by decide +kernel), List.mem_of_getElem? (i := 725) (by decide +kernel), List.mem_of_getElem? (i := 726) (by decide +kernel)⟩
theorem lw_p19 : lw_okq (⟨"GoatMatches$Reader", "negation", "(I)V"⟩, 7) := ⟨⟨by decide +kernel, by decide +kernel⟩, List.mem_of_getElem? (i := 307) (by decide +kernel), List.mem_of_getElem? (i := 729) (by decide +kernel), List.mem_of_getElem? (i := 730) (by decide +kernel)⟩
theorem lw_p20 : lw_okq (⟨"GoatMatches$Reader", "unit", "(I)V"⟩, 7) := ⟨⟨by decide +kernel, by decide +kernel⟩, List.mem_of_getElem? (i := 307) (by decide +kernel), List.mem_of_getElem? (i := 737) (by decide +kernel), List.mem_of_getElem? (i := 738) (by decide +kernel)⟩
theorem lw_p21 : lw_okq (⟨"GoatMatches$Reader", "rainBody", "()V"⟩, 7) := ⟨⟨by decide +kernel, by decide +kernel⟩, List.mem_of_getElem? (i := 307) (by decide +kernel), List.mem_of_getElem? (i := 750) (by decide +kernel), List.mem_of_getElem? (i := 751) (by decide +kernel)⟩
theorem lw_p22 : lw_okq (⟨"GoatMatches$Reader", "sow", "()V"⟩, 7) := ⟨⟨by decide +kernel, by decide +kernel⟩, List.mem_of_getElem? (i := 307) (by decide +kernel), List.mem_of_getElem? (i := 754) (by decide +kernel), List.mem_of_getElem? (i := 755) (by decide +kernel)⟩
theorem lw_p23 : lw_okq (⟨"GoatMatches$Walk", "unitWorth", "(ILGoatMatches$Herds;II)I"⟩, 5) := ⟨⟨by decide +kernel, by decide +kernel⟩, List.mem_of_getElem? (i := 337) (by decide +kernel), List.mem_of_getElem? (i := 795) (by decide +kernel), List.mem_of_getElem? (i := 796) (by decide +kernel)⟩
theorem lw_p24 : lw_okq (⟨"GoatMatches$Past", "dropOldest", "()V"⟩, 3) := ⟨⟨by decide +kernel, by decide +kernel⟩, List.mem_of_getElem? (i := 399) (by decide +kernel), List.mem_of_getElem? (i := 854) (by decide +kernel), List.mem_of_getElem? (i := 855) (by decide +kernel)⟩
theorem lw_p25 : lw_okq (⟨"GoatMatches$Walk", "go", "(LGoatMatches$Herds;)V"⟩, 5) := ⟨⟨by decide +kernel, by decide +kernel⟩, List.mem_of_getElem? (i := 337) (by decide +kernel), List.mem_of_getElem? (i := 891) (by decide +kernel), List.mem_of_getElem? (i := 892) (by decide +kernel)⟩
theorem lw_p26 : lw_okq (⟨"GoatMatches$Walk", "eat", "(LGoatMatches$Herds;)V"⟩, 5) := ⟨⟨by decide +kernel, by decide +kernel⟩, List.mem_of_getElem? (i := 337) (by decide +kernel), List.mem_of_getElem? (i := 899) (by decide +kernel), List.mem_of_getElem? (i := 900) (by decide +kernel)⟩
theorem lw_p27 : lw_okq (⟨"GoatMatches$Walk", "mingle", "(LGoatMatches$Herds;)V"⟩, 5) := ⟨⟨by decide +kernel, by decide +kernel⟩, List.mem_of_getElem? (i := 337) (by decide +kernel), List.mem_of_getElem? (i := 904) (by decide +kernel), List.mem_of_getElem? (i := 905) (by decide +kernel)⟩
theorem lw_p28 : lw_okq (⟨"GoatMatches$Walk", "match", "(LGoatMatches$Herds;I)I"⟩, 5) := ⟨⟨by decide +kernel, by decide +kernel⟩, List.mem_of_getElem? (i := 337) (by decide +kernel), List.mem_of_getElem? (i := 913) (by decide +kernel), List.mem_of_getElem? (i := 914) (by decide +kernel)⟩
theorem lw_p29 : lw_okq (⟨"GoatMatches$Walk", "rain", "(LGoatMatches$Herds;)V"⟩, 5) := ⟨⟨by decide +kernel, by decide +kernel⟩, List.mem_of_getElem? (i := 337) (by decide +kernel), List.mem_of_getElem? (i := 922) (by decide +kernel), List.mem_of_getElem? (i := 923) (by decide +kernel)⟩
theorem lw_p30 : lw_okq (⟨"GoatMatches$Past", "swap", "(ILGoatMatches$Herds;)LGoatMatches$Herds;"⟩, 3) := ⟨⟨by decide +kernel, by decide +kernel⟩, List.mem_of_getElem? (i := 399) (by decide +kernel), List.mem_of_getElem? (i := 936) (by decide +kernel), List.mem_of_getElem? (i := 937) (by decide +kernel)⟩
theorem lw_p31 : lw_okq (⟨"GoatMatches$Foresight", "mixEnough", "(LGoatMatches$Herds;II)Z"⟩, 9) := ⟨⟨by decide +kernel, by decide +kernel⟩, List.mem_of_getElem? (i := 362) (by decide +kernel), List.mem_of_getElem? (i := 988) (by decide +kernel), List.mem_of_getElem? (i := 989) (by decide +kernel)⟩
def lw_privs_2 : List (MethodName × Nat) := [(⟨"GoatMatches$Reader", "named", "()I"⟩, 7), (⟨"GoatMatches$Reader", "feudBody", "()V"⟩, 7), (⟨"GoatMatches$Reader", "formula", "(II)V"⟩, 7), (⟨"GoatMatches$Reader", "negation", "(I)V"⟩, 7), (⟨"GoatMatches$Reader", "unit", "(I)V"⟩, 7), (⟨"GoatMatches$Reader", "rainBody", "()V"⟩, 7), (⟨"GoatMatches$Reader", "sow", "()V"⟩, 7), (⟨"GoatMatches$Walk", "unitWorth", "(ILGoatMatches$Herds;II)I"⟩, 5), (⟨"GoatMatches$Past", "dropOldest", "()V"⟩, 3), (⟨"GoatMatches$Walk", "go", "(LGoatMatches$Herds;)V"⟩, 5), (⟨"GoatMatches$Walk", "eat", "(LGoatMatches$Herds;)V"⟩, 5), (⟨"GoatMatches$Walk", "mingle", "(LGoatMatches$Herds;)V"⟩, 5), (⟨"GoatMatches$Walk", "match", "(LGoatMatches$Herds;I)I"⟩, 5), (⟨"GoatMatches$Walk", "rain", "(LGoatMatches$Herds;)V"⟩, 5), (⟨"GoatMatches$Past", "swap", "(ILGoatMatches$Herds;)LGoatMatches$Herds;"⟩, 3), (⟨"GoatMatches$Foresight", "mixEnough", "(LGoatMatches$Herds;II)Z"⟩, 9)]
theorem lw_r2 : ∀ q ∈ lw_privs_2, lw_okq q := List.forall_mem_cons.mpr ⟨lw_p16, List.forall_mem_cons.mpr ⟨lw_p17, List.forall_mem_cons.mpr ⟨lw_p18, List.forall_mem_cons.mpr ⟨lw_p19, List.forall_mem_cons.mpr ⟨lw_p20, List.forall_mem_cons.mpr ⟨lw_p21, List.forall_mem_cons.mpr ⟨lw_p22, List.forall_mem_cons.mpr ⟨lw_p23, List.forall_mem_cons.mpr ⟨lw_p24, List.forall_mem_cons.mpr ⟨lw_p25, List.forall_mem_cons.mpr ⟨lw_p26, List.forall_mem_cons.mpr ⟨lw_p27, List.forall_mem_cons.mpr ⟨lw_p28, List.forall_mem_cons.mpr ⟨lw_p29, List.forall_mem_cons.mpr ⟨lw_p30, List.forall_mem_cons.mpr ⟨lw_p31, fun _ h => absurd h List.not_mem_nil⟩⟩⟩⟩⟩⟩⟩⟩⟩⟩⟩⟩⟩⟩⟩⟩
theorem lw_p32 : lw_okq (⟨"GoatMatches$Foresight", "leastOne", "(LGoatMatches$Herds;I)I"⟩, 9) := ⟨⟨by decide +kernel, by decide +kernel⟩, List.mem_of_getElem? (i := 362) (by decide +kernel), List.mem_of_getElem? (i := 997) (by decide +kernel), List.mem_of_getElem? (i := 998) (by decide +kernel)⟩
theorem lw_p33 : lw_okq (⟨"GoatMatches$Foresight", "leastTwo", "(LGoatMatches$Herds;)I"⟩, 9) := ⟨⟨by decide +kernel, by decide +kernel⟩, List.mem_of_getElem? (i := 362) (by decide +kernel), List.mem_of_getElem? (i := 1002) (by decide +kernel), List.mem_of_getElem? (i := 1003) (by decide +kernel)⟩
theorem lw_p34 : lw_okq (⟨"GoatMatches$Foresight", "leastThree", "(LGoatMatches$Herds;)I"⟩, 9) := ⟨⟨by decide +kernel, by decide +kernel⟩, List.mem_of_getElem? (i := 362) (by decide +kernel), List.mem_of_getElem? (i := 1006) (by decide +kernel), List.mem_of_getElem? (i := 1007) (by decide +kernel)⟩
theorem lw_p35 : lw_okq (⟨"GoatMatches$Foresight", "eachIsLookedAt", "(III)Z"⟩, 9) := ⟨⟨by decide +kernel, by decide +kernel⟩, List.mem_of_getElem? (i := 362) (by decide +kernel), List.mem_of_getElem? (i := 1010) (by decide +kernel), List.mem_of_getElem? (i := 1011) (by decide +kernel)⟩
theorem lw_p36 : lw_okq (⟨"GoatMatches$Foresight", "mixesFrom", "(LGoatMatches$Herds;I)I"⟩, 9) := ⟨⟨by decide +kernel, by decide +kernel⟩, List.mem_of_getElem? (i := 362) (by decide +kernel), List.mem_of_getElem? (i := 1034) (by decide +kernel), List.mem_of_getElem? (i := 1035) (by decide +kernel)⟩
theorem lw_p37 : lw_okq (⟨"GoatMatches$Pairs", "pairFrom", "(I)V"⟩, 7) := ⟨⟨by decide +kernel, by decide +kernel⟩, List.mem_of_getElem? (i := 420) (by decide +kernel), List.mem_of_getElem? (i := 1051) (by decide +kernel), List.mem_of_getElem? (i := 1052) (by decide +kernel)⟩
theorem lw_p38 : lw_okq (⟨"GoatMatches$Pairs", "isCalm", "()Z"⟩, 7) := ⟨⟨by decide +kernel, by decide +kernel⟩, List.mem_of_getElem? (i := 420) (by decide +kernel), List.mem_of_getElem? (i := 1055) (by decide +kernel), List.mem_of_getElem? (i := 1056) (by decide +kernel)⟩
theorem lw_p39 : lw_okq (⟨"GoatMatches$Pairs", "has", "(I)I"⟩, 7) := ⟨⟨by decide +kernel, by decide +kernel⟩, List.mem_of_getElem? (i := 420) (by decide +kernel), List.mem_of_getElem? (i := 1066) (by decide +kernel), List.mem_of_getElem? (i := 1067) (by decide +kernel)⟩
theorem lw_p40 : lw_okq (⟨"GoatMatches$Pairs", "note", "()V"⟩, 7) := ⟨⟨by decide +kernel, by decide +kernel⟩, List.mem_of_getElem? (i := 420) (by decide +kernel), List.mem_of_getElem? (i := 1070) (by decide +kernel), List.mem_of_getElem? (i := 1071) (by decide +kernel)⟩
theorem lw_p41 : lw_okq (⟨"GoatMatches", "lay", "([I)V"⟩, 14) := ⟨⟨by decide +kernel, by decide +kernel⟩, List.mem_of_getElem? (i := 22) (by decide +kernel), List.mem_of_getElem? (i := 1076) (by decide +kernel), List.mem_of_getElem? (i := 1077) (by decide +kernel)⟩
theorem lw_p42 : lw_okq (⟨"GoatMatches", "hoursForLoss", "(I)I"⟩, 14) := ⟨⟨by decide +kernel, by decide +kernel⟩, List.mem_of_getElem? (i := 22) (by decide +kernel), List.mem_of_getElem? (i := 1102) (by decide +kernel), List.mem_of_getElem? (i := 1103) (by decide +kernel)⟩
theorem lw_p43 : lw_okq (⟨"GoatMatches", "lostAtWells", "()I"⟩, 14) := ⟨⟨by decide +kernel, by decide +kernel⟩, List.mem_of_getElem? (i := 22) (by decide +kernel), List.mem_of_getElem? (i := 1106) (by decide +kernel), List.mem_of_getElem? (i := 1107) (by decide +kernel)⟩
theorem lw_p44 : lw_okq (⟨"GoatMatches$Sights", "isKnown", "(II)Z"⟩, 8) := ⟨⟨by decide +kernel, by decide +kernel⟩, List.mem_of_getElem? (i := 453) (by decide +kernel), List.mem_of_getElem? (i := 1156) (by decide +kernel), List.mem_of_getElem? (i := 1157) (by decide +kernel)⟩
theorem lw_p45 : lw_okq (⟨"GoatMatches$Foresight", "explains", "(LGoatMatches$Herds;ILGoatMatches$Sights;II)Z"⟩, 9) := ⟨⟨by decide +kernel, by decide +kernel⟩, List.mem_of_getElem? (i := 362) (by decide +kernel), List.mem_of_getElem? (i := 1161) (by decide +kernel), List.mem_of_getElem? (i := 1162) (by decide +kernel)⟩
theorem lw_p46 : lw_okq (⟨"GoatMatches$Foresight", "countWhere", "(LGoatMatches$Herds;II)V"⟩, 9) := ⟨⟨by decide +kernel, by decide +kernel⟩, List.mem_of_getElem? (i := 362) (by decide +kernel), List.mem_of_getElem? (i := 1178) (by decide +kernel), List.mem_of_getElem? (i := 1179) (by decide +kernel)⟩
theorem lw_p47 : lw_okq (⟨"GoatMatches", "aboutBooks", "(I)I"⟩, 14) := ⟨⟨by decide +kernel, by decide +kernel⟩, List.mem_of_getElem? (i := 22) (by decide +kernel), List.mem_of_getElem? (i := 1196) (by decide +kernel), List.mem_of_getElem? (i := 1197) (by decide +kernel)⟩
def lw_privs_3 : List (MethodName × Nat) := [(⟨"GoatMatches$Foresight", "leastOne", "(LGoatMatches$Herds;I)I"⟩, 9), (⟨"GoatMatches$Foresight", "leastTwo", "(LGoatMatches$Herds;)I"⟩, 9), (⟨"GoatMatches$Foresight", "leastThree", "(LGoatMatches$Herds;)I"⟩, 9), (⟨"GoatMatches$Foresight", "eachIsLookedAt", "(III)Z"⟩, 9), (⟨"GoatMatches$Foresight", "mixesFrom", "(LGoatMatches$Herds;I)I"⟩, 9), (⟨"GoatMatches$Pairs", "pairFrom", "(I)V"⟩, 7), (⟨"GoatMatches$Pairs", "isCalm", "()Z"⟩, 7), (⟨"GoatMatches$Pairs", "has", "(I)I"⟩, 7), (⟨"GoatMatches$Pairs", "note", "()V"⟩, 7), (⟨"GoatMatches", "lay", "([I)V"⟩, 14), (⟨"GoatMatches", "hoursForLoss", "(I)I"⟩, 14), (⟨"GoatMatches", "lostAtWells", "()I"⟩, 14), (⟨"GoatMatches$Sights", "isKnown", "(II)Z"⟩, 8), (⟨"GoatMatches$Foresight", "explains", "(LGoatMatches$Herds;ILGoatMatches$Sights;II)Z"⟩, 9), (⟨"GoatMatches$Foresight", "countWhere", "(LGoatMatches$Herds;II)V"⟩, 9), (⟨"GoatMatches", "aboutBooks", "(I)I"⟩, 14)]
theorem lw_r3 : ∀ q ∈ lw_privs_3, lw_okq q := List.forall_mem_cons.mpr ⟨lw_p32, List.forall_mem_cons.mpr ⟨lw_p33, List.forall_mem_cons.mpr ⟨lw_p34, List.forall_mem_cons.mpr ⟨lw_p35, List.forall_mem_cons.mpr ⟨lw_p36, List.forall_mem_cons.mpr ⟨lw_p37, List.forall_mem_cons.mpr ⟨lw_p38, List.forall_mem_cons.mpr ⟨lw_p39, List.forall_mem_cons.mpr ⟨lw_p40, List.forall_mem_cons.mpr ⟨lw_p41, List.forall_mem_cons.mpr ⟨lw_p42, List.forall_mem_cons.mpr ⟨lw_p43, List.forall_mem_cons.mpr ⟨lw_p44, List.forall_mem_cons.mpr ⟨lw_p45, List.forall_mem_cons.mpr ⟨lw_p46, List.forall_mem_cons.mpr ⟨lw_p47, fun _ h => absurd h List.not_mem_nil⟩⟩⟩⟩⟩⟩⟩⟩⟩⟩⟩⟩⟩⟩⟩⟩
theorem lw_p48 : lw_okq (⟨"GoatMatchesModel", "four", "(I)V"⟩, 81) := ⟨⟨by decide +kernel, by decide +kernel⟩, List.mem_of_getElem? (i := 1200) (by decide +kernel), List.mem_of_getElem? (i := 1454) (by decide +kernel), List.mem_of_getElem? (i := 1455) (by decide +kernel)⟩
theorem lw_p49 : lw_okq (⟨"GoatMatchesModel", "readAll", "()V"⟩, 81) := ⟨⟨by decide +kernel, by decide +kernel⟩, List.mem_of_getElem? (i := 1200) (by decide +kernel), List.mem_of_getElem? (i := 1466) (by decide +kernel), List.mem_of_getElem? (i := 1467) (by decide +kernel)⟩
theorem lw_p50 : lw_okq (⟨"GoatMatchesModel", "token", "()V"⟩, 81) := ⟨⟨by decide +kernel, by decide +kernel⟩, List.mem_of_getElem? (i := 1200) (by decide +kernel), List.mem_of_getElem? (i := 1470) (by decide +kernel), List.mem_of_getElem? (i := 1471) (by decide +kernel)⟩
theorem lw_p51 : lw_okq (⟨"GoatMatchesModel", "here", "(I)I"⟩, 81) := ⟨⟨by decide +kernel, by decide +kernel⟩, List.mem_of_getElem? (i := 1200) (by decide +kernel), List.mem_of_getElem? (i := 1474) (by decide +kernel), List.mem_of_getElem? (i := 1475) (by decide +kernel)⟩
theorem lw_p52 : lw_okq (⟨"GoatMatchesModel", "readLine", "()V"⟩, 81) := ⟨⟨by decide +kernel, by decide +kernel⟩, List.mem_of_getElem? (i := 1200) (by decide +kernel), List.mem_of_getElem? (i := 1487) (by decide +kernel), List.mem_of_getElem? (i := 1488) (by decide +kernel)⟩
theorem lw_p53 : lw_okq (⟨"GoatMatchesModel", "isWord", "(J)Z"⟩, 81) := ⟨⟨by decide +kernel, by decide +kernel⟩, List.mem_of_getElem? (i := 1200) (by decide +kernel), List.mem_of_getElem? (i := 1492) (by decide +kernel), List.mem_of_getElem? (i := 1493) (by decide +kernel)⟩
theorem lw_p54 : lw_okq (⟨"GoatMatchesModel", "readGorge", "()V"⟩, 81) := ⟨⟨by decide +kernel, by decide +kernel⟩, List.mem_of_getElem? (i := 1200) (by decide +kernel), List.mem_of_getElem? (i := 1496) (by decide +kernel), List.mem_of_getElem? (i := 1497) (by decide +kernel)⟩
theorem lw_p55 : lw_okq (⟨"GoatMatchesModel", "toldNumber", "(II)I"⟩, 81) := ⟨⟨by decide +kernel, by decide +kernel⟩, List.mem_of_getElem? (i := 1200) (by decide +kernel), List.mem_of_getElem? (i := 1500) (by decide +kernel), List.mem_of_getElem? (i := 1501) (by decide +kernel)⟩
theorem lw_p56 : lw_okq (⟨"GoatMatchesModel", "wrong", "(I)V"⟩, 81) := ⟨⟨by decide +kernel, by decide +kernel⟩, List.mem_of_getElem? (i := 1200) (by decide +kernel), List.mem_of_getElem? (i := 1504) (by decide +kernel), List.mem_of_getElem? (i := 1505) (by decide +kernel)⟩
theorem lw_p57 : lw_okq (⟨"GoatMatchesModel", "told", "(JII)I"⟩, 81) := ⟨⟨by decide +kernel, by decide +kernel⟩, List.mem_of_getElem? (i := 1200) (by decide +kernel), List.mem_of_getElem? (i := 1509) (by decide +kernel), List.mem_of_getElem? (i := 1510) (by decide +kernel)⟩
theorem lw_p58 : lw_okq (⟨"GoatMatchesModel", "want", "(J)V"⟩, 81) := ⟨⟨by decide +kernel, by decide +kernel⟩, List.mem_of_getElem? (i := 1200) (by decide +kernel), List.mem_of_getElem? (i := 1513) (by decide +kernel), List.mem_of_getElem? (i := 1514) (by decide +kernel)⟩
theorem lw_p59 : lw_okq (⟨"GoatMatchesModel", "readGrass", "()V"⟩, 81) := ⟨⟨by decide +kernel, by decide +kernel⟩, List.mem_of_getElem? (i := 1200) (by decide +kernel), List.mem_of_getElem? (i := 1519) (by decide +kernel), List.mem_of_getElem? (i := 1520) (by decide +kernel)⟩
theorem lw_p60 : lw_okq (⟨"GoatMatchesModel", "readFlock", "()V"⟩, 81) := ⟨⟨by decide +kernel, by decide +kernel⟩, List.mem_of_getElem? (i := 1200) (by decide +kernel), List.mem_of_getElem? (i := 1524) (by decide +kernel), List.mem_of_getElem? (i := 1525) (by decide +kernel)⟩
theorem lw_p61 : lw_okq (⟨"GoatMatchesModel", "isName", "()Z"⟩, 81) := ⟨⟨by decide +kernel, by decide +kernel⟩, List.mem_of_getElem? (i := 1200) (by decide +kernel), List.mem_of_getElem? (i := 1528) (by decide +kernel), List.mem_of_getElem? (i := 1529) (by decide +kernel)⟩
theorem lw_p62 : lw_okq (⟨"GoatMatchesModel", "isOwn", "()Z"⟩, 81) := ⟨⟨by decide +kernel, by decide +kernel⟩, List.mem_of_getElem? (i := 1200) (by decide +kernel), List.mem_of_getElem? (i := 1532) (by decide +kernel), List.mem_of_getElem? (i := 1533) (by decide +kernel)⟩
theorem lw_p63 : lw_okq (⟨"GoatMatchesModel", "find", "()I"⟩, 81) := ⟨⟨by decide +kernel, by decide +kernel⟩, List.mem_of_getElem? (i := 1200) (by decide +kernel), List.mem_of_getElem? (i := 1555) (by decide +kernel), List.mem_of_getElem? (i := 1556) (by decide +kernel)⟩
def lw_privs_4 : List (MethodName × Nat) := [(⟨"GoatMatchesModel", "four", "(I)V"⟩, 81), (⟨"GoatMatchesModel", "readAll", "()V"⟩, 81), (⟨"GoatMatchesModel", "token", "()V"⟩, 81), (⟨"GoatMatchesModel", "here", "(I)I"⟩, 81), (⟨"GoatMatchesModel", "readLine", "()V"⟩, 81), (⟨"GoatMatchesModel", "isWord", "(J)Z"⟩, 81), (⟨"GoatMatchesModel", "readGorge", "()V"⟩, 81), (⟨"GoatMatchesModel", "toldNumber", "(II)I"⟩, 81), (⟨"GoatMatchesModel", "wrong", "(I)V"⟩, 81), (⟨"GoatMatchesModel", "told", "(JII)I"⟩, 81), (⟨"GoatMatchesModel", "want", "(J)V"⟩, 81), (⟨"GoatMatchesModel", "readGrass", "()V"⟩, 81), (⟨"GoatMatchesModel", "readFlock", "()V"⟩, 81), (⟨"GoatMatchesModel", "isName", "()Z"⟩, 81), (⟨"GoatMatchesModel", "isOwn", "()Z"⟩, 81), (⟨"GoatMatchesModel", "find", "()I"⟩, 81)]
theorem lw_r4 : ∀ q ∈ lw_privs_4, lw_okq q := List.forall_mem_cons.mpr ⟨lw_p48, List.forall_mem_cons.mpr ⟨lw_p49, List.forall_mem_cons.mpr ⟨lw_p50, List.forall_mem_cons.mpr ⟨lw_p51, List.forall_mem_cons.mpr ⟨lw_p52, List.forall_mem_cons.mpr ⟨lw_p53, List.forall_mem_cons.mpr ⟨lw_p54, List.forall_mem_cons.mpr ⟨lw_p55, List.forall_mem_cons.mpr ⟨lw_p56, List.forall_mem_cons.mpr ⟨lw_p57, List.forall_mem_cons.mpr ⟨lw_p58, List.forall_mem_cons.mpr ⟨lw_p59, List.forall_mem_cons.mpr ⟨lw_p60, List.forall_mem_cons.mpr ⟨lw_p61, List.forall_mem_cons.mpr ⟨lw_p62, List.forall_mem_cons.mpr ⟨lw_p63, fun _ h => absurd h List.not_mem_nil⟩⟩⟩⟩⟩⟩⟩⟩⟩⟩⟩⟩⟩⟩⟩⟩
theorem lw_p64 : lw_okq (⟨"GoatMatchesModel", "readWants", "()V"⟩, 81) := ⟨⟨by decide +kernel, by decide +kernel⟩, List.mem_of_getElem? (i := 1200) (by decide +kernel), List.mem_of_getElem? (i := 1562) (by decide +kernel), List.mem_of_getElem? (i := 1563) (by decide +kernel)⟩
theorem lw_p65 : lw_okq (⟨"GoatMatchesModel", "oldFlock", "()I"⟩, 81) := ⟨⟨by decide +kernel, by decide +kernel⟩, List.mem_of_getElem? (i := 1200) (by decide +kernel), List.mem_of_getElem? (i := 1566) (by decide +kernel), List.mem_of_getElem? (i := 1567) (by decide +kernel)⟩
theorem lw_p66 : lw_okq (⟨"GoatMatchesModel", "readFeud", "()V"⟩, 81) := ⟨⟨by decide +kernel, by decide +kernel⟩, List.mem_of_getElem? (i := 1200) (by decide +kernel), List.mem_of_getElem? (i := 1570) (by decide +kernel), List.mem_of_getElem? (i := 1571) (by decide +kernel)⟩
theorem lw_p67 : lw_okq (⟨"GoatMatchesModel", "readPull", "()V"⟩, 81) := ⟨⟨by decide +kernel, by decide +kernel⟩, List.mem_of_getElem? (i := 1200) (by decide +kernel), List.mem_of_getElem? (i := 1574) (by decide +kernel), List.mem_of_getElem? (i := 1575) (by decide +kernel)⟩
theorem lw_p68 : lw_okq (⟨"GoatMatchesModel", "unit", "()V"⟩, 81) := ⟨⟨by decide +kernel, by decide +kernel⟩, List.mem_of_getElem? (i := 1200) (by decide +kernel), List.mem_of_getElem? (i := 1578) (by decide +kernel), List.mem_of_getElem? (i := 1579) (by decide +kernel)⟩
theorem lw_p69 : lw_okq (⟨"GoatMatchesModel", "mayNot", "()Z"⟩, 81) := ⟨⟨by decide +kernel, by decide +kernel⟩, List.mem_of_getElem? (i := 1200) (by decide +kernel), List.mem_of_getElem? (i := 1582) (by decide +kernel), List.mem_of_getElem? (i := 1583) (by decide +kernel)⟩
theorem lw_p70 : lw_okq (⟨"GoatMatchesModel", "openUp", "(I)V"⟩, 81) := ⟨⟨by decide +kernel, by decide +kernel⟩, List.mem_of_getElem? (i := 1200) (by decide +kernel), List.mem_of_getElem? (i := 1589) (by decide +kernel), List.mem_of_getElem? (i := 1590) (by decide +kernel)⟩
theorem lw_p71 : lw_okq (⟨"GoatMatchesModel", "isFull", "()Z"⟩, 81) := ⟨⟨by decide +kernel, by decide +kernel⟩, List.mem_of_getElem? (i := 1200) (by decide +kernel), List.mem_of_getElem? (i := 1593) (by decide +kernel), List.mem_of_getElem? (i := 1594) (by decide +kernel)⟩
theorem lw_p72 : lw_okq (⟨"GoatMatchesModel", "countUnit", "()V"⟩, 81) := ⟨⟨by decide +kernel, by decide +kernel⟩, List.mem_of_getElem? (i := 1200) (by decide +kernel), List.mem_of_getElem? (i := 1597) (by decide +kernel), List.mem_of_getElem? (i := 1598) (by decide +kernel)⟩
theorem lw_p73 : lw_okq (⟨"GoatMatchesModel", "asked", "()I"⟩, 81) := ⟨⟨by decide +kernel, by decide +kernel⟩, List.mem_of_getElem? (i := 1200) (by decide +kernel), List.mem_of_getElem? (i := 1601) (by decide +kernel), List.mem_of_getElem? (i := 1602) (by decide +kernel)⟩
theorem lw_p74 : lw_okq (⟨"GoatMatchesModel", "add", "(II)V"⟩, 81) := ⟨⟨by decide +kernel, by decide +kernel⟩, List.mem_of_getElem? (i := 1200) (by decide +kernel), List.mem_of_getElem? (i := 1605) (by decide +kernel), List.mem_of_getElem? (i := 1606) (by decide +kernel)⟩
theorem lw_p75 : lw_okq (⟨"GoatMatchesModel", "sign", "()I"⟩, 81) := ⟨⟨by decide +kernel, by decide +kernel⟩, List.mem_of_getElem? (i := 1200) (by decide +kernel), List.mem_of_getElem? (i := 1609) (by decide +kernel), List.mem_of_getElem? (i := 1610) (by decide +kernel)⟩
theorem lw_p76 : lw_okq (⟨"GoatMatchesModel", "hasBracket", "()Z"⟩, 81) := ⟨⟨by decide +kernel, by decide +kernel⟩, List.mem_of_getElem? (i := 1200) (by decide +kernel), List.mem_of_getElem? (i := 1613) (by decide +kernel), List.mem_of_getElem? (i := 1614) (by decide +kernel)⟩
theorem lw_p77 : lw_okq (⟨"GoatMatchesModel", "close", "(I)V"⟩, 81) := ⟨⟨by decide +kernel, by decide +kernel⟩, List.mem_of_getElem? (i := 1200) (by decide +kernel), List.mem_of_getElem? (i := 1617) (by decide +kernel), List.mem_of_getElem? (i := 1618) (by decide +kernel)⟩
theorem lw_p78 : lw_okq (⟨"GoatMatchesModel", "hasRelation", "()Z"⟩, 81) := ⟨⟨by decide +kernel, by decide +kernel⟩, List.mem_of_getElem? (i := 1200) (by decide +kernel), List.mem_of_getElem? (i := 1621) (by decide +kernel), List.mem_of_getElem? (i := 1622) (by decide +kernel)⟩
theorem lw_p79 : lw_okq (⟨"GoatMatchesModel", "all", "()I"⟩, 81) := ⟨⟨by decide +kernel, by decide +kernel⟩, List.mem_of_getElem? (i := 1200) (by decide +kernel), List.mem_of_getElem? (i := 1625) (by decide +kernel), List.mem_of_getElem? (i := 1626) (by decide +kernel)⟩
def lw_privs_5 : List (MethodName × Nat) := [(⟨"GoatMatchesModel", "readWants", "()V"⟩, 81), (⟨"GoatMatchesModel", "oldFlock", "()I"⟩, 81), (⟨"GoatMatchesModel", "readFeud", "()V"⟩, 81), (⟨"GoatMatchesModel", "readPull", "()V"⟩, 81), (⟨"GoatMatchesModel", "unit", "()V"⟩, 81), (⟨"GoatMatchesModel", "mayNot", "()Z"⟩, 81), (⟨"GoatMatchesModel", "openUp", "(I)V"⟩, 81), (⟨"GoatMatchesModel", "isFull", "()Z"⟩, 81), (⟨"GoatMatchesModel", "countUnit", "()V"⟩, 81), (⟨"GoatMatchesModel", "asked", "()I"⟩, 81), (⟨"GoatMatchesModel", "add", "(II)V"⟩, 81), (⟨"GoatMatchesModel", "sign", "()I"⟩, 81), (⟨"GoatMatchesModel", "hasBracket", "()Z"⟩, 81), (⟨"GoatMatchesModel", "close", "(I)V"⟩, 81), (⟨"GoatMatchesModel", "hasRelation", "()Z"⟩, 81), (⟨"GoatMatchesModel", "all", "()I"⟩, 81)]
theorem lw_r5 : ∀ q ∈ lw_privs_5, lw_okq q := List.forall_mem_cons.mpr ⟨lw_p64, List.forall_mem_cons.mpr ⟨lw_p65, List.forall_mem_cons.mpr ⟨lw_p66, List.forall_mem_cons.mpr ⟨lw_p67, List.forall_mem_cons.mpr ⟨lw_p68, List.forall_mem_cons.mpr ⟨lw_p69, List.forall_mem_cons.mpr ⟨lw_p70, List.forall_mem_cons.mpr ⟨lw_p71, List.forall_mem_cons.mpr ⟨lw_p72, List.forall_mem_cons.mpr ⟨lw_p73, List.forall_mem_cons.mpr ⟨lw_p74, List.forall_mem_cons.mpr ⟨lw_p75, List.forall_mem_cons.mpr ⟨lw_p76, List.forall_mem_cons.mpr ⟨lw_p77, List.forall_mem_cons.mpr ⟨lw_p78, List.forall_mem_cons.mpr ⟨lw_p79, fun _ h => absurd h List.not_mem_nil⟩⟩⟩⟩⟩⟩⟩⟩⟩⟩⟩⟩⟩⟩⟩⟩
theorem lw_p80 : lw_okq (⟨"GoatMatchesModel", "isFlock", "(I)Z"⟩, 81) := ⟨⟨by decide +kernel, by decide +kernel⟩, List.mem_of_getElem? (i := 1200) (by decide +kernel), List.mem_of_getElem? (i := 1637) (by decide +kernel), List.mem_of_getElem? (i := 1638) (by decide +kernel)⟩
theorem lw_p81 : lw_okq (⟨"GoatMatchesModel", "isCell", "(I)Z"⟩, 81) := ⟨⟨by decide +kernel, by decide +kernel⟩, List.mem_of_getElem? (i := 1200) (by decide +kernel), List.mem_of_getElem? (i := 1648) (by decide +kernel), List.mem_of_getElem? (i := 1649) (by decide +kernel)⟩
theorem lw_p82 : lw_okq (⟨"GoatMatchesModel", "flocksIn", "(I)I"⟩, 81) := ⟨⟨by decide +kernel, by decide +kernel⟩, List.mem_of_getElem? (i := 1200) (by decide +kernel), List.mem_of_getElem? (i := 1652) (by decide +kernel), List.mem_of_getElem? (i := 1653) (by decide +kernel)⟩
theorem lw_p83 : lw_okq (⟨"GoatMatchesModel", "load", "()V"⟩, 81) := ⟨⟨by decide +kernel, by decide +kernel⟩, List.mem_of_getElem? (i := 1200) (by decide +kernel), List.mem_of_getElem? (i := 1661) (by decide +kernel), List.mem_of_getElem? (i := 1662) (by decide +kernel)⟩
theorem lw_p84 : lw_okq (⟨"GoatMatchesModel", "pullOf", "(II)I"⟩, 81) := ⟨⟨by decide +kernel, by decide +kernel⟩, List.mem_of_getElem? (i := 1200) (by decide +kernel), List.mem_of_getElem? (i := 1665) (by decide +kernel), List.mem_of_getElem? (i := 1666) (by decide +kernel)⟩
theorem lw_p85 : lw_okq (⟨"GoatMatchesModel", "othersIn", "(II)I"⟩, 81) := ⟨⟨by decide +kernel, by decide +kernel⟩, List.mem_of_getElem? (i := 1200) (by decide +kernel), List.mem_of_getElem? (i := 1669) (by decide +kernel), List.mem_of_getElem? (i := 1670) (by decide +kernel)⟩
theorem lw_p86 : lw_okq (⟨"GoatMatchesModel", "farOf", "(II)I"⟩, 81) := ⟨⟨by decide +kernel, by decide +kernel⟩, List.mem_of_getElem? (i := 1200) (by decide +kernel), List.mem_of_getElem? (i := 1673) (by decide +kernel), List.mem_of_getElem? (i := 1674) (by decide +kernel)⟩
theorem lw_p87 : lw_okq (⟨"GoatMatchesModel", "worked", "()I"⟩, 81) := ⟨⟨by decide +kernel, by decide +kernel⟩, List.mem_of_getElem? (i := 1200) (by decide +kernel), List.mem_of_getElem? (i := 1680) (by decide +kernel), List.mem_of_getElem? (i := 1681) (by decide +kernel)⟩
theorem lw_p88 : lw_okq (⟨"GoatMatchesModel", "areMixing", "(II)Z"⟩, 81) := ⟨⟨by decide +kernel, by decide +kernel⟩, List.mem_of_getElem? (i := 1200) (by decide +kernel), List.mem_of_getElem? (i := 1691) (by decide +kernel), List.mem_of_getElem? (i := 1692) (by decide +kernel)⟩
theorem lw_p89 : lw_okq (⟨"GoatMatchesModel", "canMix", "(II)Z"⟩, 81) := ⟨⟨by decide +kernel, by decide +kernel⟩, List.mem_of_getElem? (i := 1200) (by decide +kernel), List.mem_of_getElem? (i := 1695) (by decide +kernel), List.mem_of_getElem? (i := 1696) (by decide +kernel)⟩
theorem lw_p90 : lw_okq (⟨"GoatMatchesModel", "allGrass", "()I"⟩, 81) := ⟨⟨by decide +kernel, by decide +kernel⟩, List.mem_of_getElem? (i := 1200) (by decide +kernel), List.mem_of_getElem? (i := 1707) (by decide +kernel), List.mem_of_getElem? (i := 1708) (by decide +kernel)⟩
theorem lw_p91 : lw_okq (⟨"GoatMatchesModel", "allMatched", "()I"⟩, 81) := ⟨⟨by decide +kernel, by decide +kernel⟩, List.mem_of_getElem? (i := 1200) (by decide +kernel), List.mem_of_getElem? (i := 1715) (by decide +kernel), List.mem_of_getElem? (i := 1716) (by decide +kernel)⟩
theorem lw_p92 : lw_okq (⟨"GoatMatchesModel", "act", "()V"⟩, 81) := ⟨⟨by decide +kernel, by decide +kernel⟩, List.mem_of_getElem? (i := 1200) (by decide +kernel), List.mem_of_getElem? (i := 1723) (by decide +kernel), List.mem_of_getElem? (i := 1724) (by decide +kernel)⟩
theorem lw_p93 : lw_okq (⟨"GoatMatchesModel", "goDay", "(I)I"⟩, 81) := ⟨⟨by decide +kernel, by decide +kernel⟩, List.mem_of_getElem? (i := 1200) (by decide +kernel), List.mem_of_getElem? (i := 1743) (by decide +kernel), List.mem_of_getElem? (i := 1744) (by decide +kernel)⟩
theorem lw_p94 : lw_okq (⟨"GoatMatchesModel", "decide", "(I)V"⟩, 81) := ⟨⟨by decide +kernel, by decide +kernel⟩, List.mem_of_getElem? (i := 1200) (by decide +kernel), List.mem_of_getElem? (i := 1747) (by decide +kernel), List.mem_of_getElem? (i := 1748) (by decide +kernel)⟩
theorem lw_p95 : lw_okq (⟨"GoatMatchesModel", "evening", "()V"⟩, 81) := ⟨⟨by decide +kernel, by decide +kernel⟩, List.mem_of_getElem? (i := 1200) (by decide +kernel), List.mem_of_getElem? (i := 1751) (by decide +kernel), List.mem_of_getElem? (i := 1752) (by decide +kernel)⟩
def lw_privs_6 : List (MethodName × Nat) := [(⟨"GoatMatchesModel", "isFlock", "(I)Z"⟩, 81), (⟨"GoatMatchesModel", "isCell", "(I)Z"⟩, 81), (⟨"GoatMatchesModel", "flocksIn", "(I)I"⟩, 81), (⟨"GoatMatchesModel", "load", "()V"⟩, 81), (⟨"GoatMatchesModel", "pullOf", "(II)I"⟩, 81), (⟨"GoatMatchesModel", "othersIn", "(II)I"⟩, 81), (⟨"GoatMatchesModel", "farOf", "(II)I"⟩, 81), (⟨"GoatMatchesModel", "worked", "()I"⟩, 81), (⟨"GoatMatchesModel", "areMixing", "(II)Z"⟩, 81), (⟨"GoatMatchesModel", "canMix", "(II)Z"⟩, 81), (⟨"GoatMatchesModel", "allGrass", "()I"⟩, 81), (⟨"GoatMatchesModel", "allMatched", "()I"⟩, 81), (⟨"GoatMatchesModel", "act", "()V"⟩, 81), (⟨"GoatMatchesModel", "goDay", "(I)I"⟩, 81), (⟨"GoatMatchesModel", "decide", "(I)V"⟩, 81), (⟨"GoatMatchesModel", "evening", "()V"⟩, 81)]
theorem lw_r6 : ∀ q ∈ lw_privs_6, lw_okq q := List.forall_mem_cons.mpr ⟨lw_p80, List.forall_mem_cons.mpr ⟨lw_p81, List.forall_mem_cons.mpr ⟨lw_p82, List.forall_mem_cons.mpr ⟨lw_p83, List.forall_mem_cons.mpr ⟨lw_p84, List.forall_mem_cons.mpr ⟨lw_p85, List.forall_mem_cons.mpr ⟨lw_p86, List.forall_mem_cons.mpr ⟨lw_p87, List.forall_mem_cons.mpr ⟨lw_p88, List.forall_mem_cons.mpr ⟨lw_p89, List.forall_mem_cons.mpr ⟨lw_p90, List.forall_mem_cons.mpr ⟨lw_p91, List.forall_mem_cons.mpr ⟨lw_p92, List.forall_mem_cons.mpr ⟨lw_p93, List.forall_mem_cons.mpr ⟨lw_p94, List.forall_mem_cons.mpr ⟨lw_p95, fun _ h => absurd h List.not_mem_nil⟩⟩⟩⟩⟩⟩⟩⟩⟩⟩⟩⟩⟩⟩⟩⟩
theorem lw_p96 : lw_okq (⟨"GoatMatchesModel", "match", "(I)I"⟩, 81) := ⟨⟨by decide +kernel, by decide +kernel⟩, List.mem_of_getElem? (i := 1200) (by decide +kernel), List.mem_of_getElem? (i := 1755) (by decide +kernel), List.mem_of_getElem? (i := 1756) (by decide +kernel)⟩
theorem lw_p97 : lw_okq (⟨"GoatMatchesModel", "rains", "()V"⟩, 81) := ⟨⟨by decide +kernel, by decide +kernel⟩, List.mem_of_getElem? (i := 1200) (by decide +kernel), List.mem_of_getElem? (i := 1759) (by decide +kernel), List.mem_of_getElem? (i := 1760) (by decide +kernel)⟩
theorem lw_p98 : lw_okq (⟨"GoatMatchesModel", "exchange", "(I)V"⟩, 81) := ⟨⟨by decide +kernel, by decide +kernel⟩, List.mem_of_getElem? (i := 1200) (by decide +kernel), List.mem_of_getElem? (i := 1767) (by decide +kernel), List.mem_of_getElem? (i := 1768) (by decide +kernel)⟩
theorem lw_p99 : lw_okq (⟨"GoatMatchesModel", "goFar", "(II)V"⟩, 81) := ⟨⟨by decide +kernel, by decide +kernel⟩, List.mem_of_getElem? (i := 1200) (by decide +kernel), List.mem_of_getElem? (i := 1779) (by decide +kernel), List.mem_of_getElem? (i := 1780) (by decide +kernel)⟩
theorem lw_p100 : lw_okq (⟨"GoatMatchesModel", "mixedMore", "(II)I"⟩, 81) := ⟨⟨by decide +kernel, by decide +kernel⟩, List.mem_of_getElem? (i := 1200) (by decide +kernel), List.mem_of_getElem? (i := 1787) (by decide +kernel), List.mem_of_getElem? (i := 1788) (by decide +kernel)⟩
theorem lw_p101 : lw_okq (⟨"GoatMatchesModel", "trickOf", "(IIIII)I"⟩, 81) := ⟨⟨by decide +kernel, by decide +kernel⟩, List.mem_of_getElem? (i := 1200) (by decide +kernel), List.mem_of_getElem? (i := 1807) (by decide +kernel), List.mem_of_getElem? (i := 1808) (by decide +kernel)⟩
theorem lw_p102 : lw_okq (⟨"GoatMatchesModel", "isTrick", "(IIIIIII)Z"⟩, 81) := ⟨⟨by decide +kernel, by decide +kernel⟩, List.mem_of_getElem? (i := 1200) (by decide +kernel), List.mem_of_getElem? (i := 1811) (by decide +kernel), List.mem_of_getElem? (i := 1812) (by decide +kernel)⟩
theorem lw_p103 : lw_okq (⟨"GoatMatchesModel", "isFree", "(I)Z"⟩, 81) := ⟨⟨by decide +kernel, by decide +kernel⟩, List.mem_of_getElem? (i := 1200) (by decide +kernel), List.mem_of_getElem? (i := 1815) (by decide +kernel), List.mem_of_getElem? (i := 1816) (by decide +kernel)⟩
theorem lw_p104 : lw_okq (⟨"GoatMatchesModel", "pens", "()I"⟩, 81) := ⟨⟨by decide +kernel, by decide +kernel⟩, List.mem_of_getElem? (i := 1200) (by decide +kernel), List.mem_of_getElem? (i := 1823) (by decide +kernel), List.mem_of_getElem? (i := 1824) (by decide +kernel)⟩
theorem lw_p105 : lw_okq (⟨"GoatMatchesModel", "isHeld", "(IIII)Z"⟩, 81) := ⟨⟨by decide +kernel, by decide +kernel⟩, List.mem_of_getElem? (i := 1200) (by decide +kernel), List.mem_of_getElem? (i := 1830) (by decide +kernel), List.mem_of_getElem? (i := 1831) (by decide +kernel)⟩
theorem lw_p106 : lw_okq (⟨"GoatMatchesModel", "mixedFrom", "(IIII)I"⟩, 81) := ⟨⟨by decide +kernel, by decide +kernel⟩, List.mem_of_getElem? (i := 1200) (by decide +kernel), List.mem_of_getElem? (i := 1838) (by decide +kernel), List.mem_of_getElem? (i := 1839) (by decide +kernel)⟩
theorem lw_p107 : lw_okq (⟨"GoatMatchesModel", "rowsOf", "()I"⟩, 81) := ⟨⟨by decide +kernel, by decide +kernel⟩, List.mem_of_getElem? (i := 1200) (by decide +kernel), List.mem_of_getElem? (i := 1850) (by decide +kernel), List.mem_of_getElem? (i := 1851) (by decide +kernel)⟩
theorem lw_p108 : lw_okq (⟨"GoatMatchesModel", "layPairs", "(I)Z"⟩, 81) := ⟨⟨by decide +kernel, by decide +kernel⟩, List.mem_of_getElem? (i := 1200) (by decide +kernel), List.mem_of_getElem? (i := 1854) (by decide +kernel), List.mem_of_getElem? (i := 1855) (by decide +kernel)⟩
theorem lw_p109 : lw_okq (⟨"GoatMatchesModel", "couldBe", "(II)Z"⟩, 81) := ⟨⟨by decide +kernel, by decide +kernel⟩, List.mem_of_getElem? (i := 1200) (by decide +kernel), List.mem_of_getElem? (i := 1858) (by decide +kernel), List.mem_of_getElem? (i := 1859) (by decide +kernel)⟩
theorem lw_p110 : lw_okq (⟨"GoatMatchesModel", "isCalm", "()Z"⟩, 81) := ⟨⟨by decide +kernel, by decide +kernel⟩, List.mem_of_getElem? (i := 1200) (by decide +kernel), List.mem_of_getElem? (i := 1862) (by decide +kernel), List.mem_of_getElem? (i := 1863) (by decide +kernel)⟩
theorem lw_p111 : lw_okq (⟨"GoatMatchesModel", "has", "(I)I"⟩, 81) := ⟨⟨by decide +kernel, by decide +kernel⟩, List.mem_of_getElem? (i := 1200) (by decide +kernel), List.mem_of_getElem? (i := 1866) (by decide +kernel), List.mem_of_getElem? (i := 1867) (by decide +kernel)⟩
def lw_privs_7 : List (MethodName × Nat) := [(⟨"GoatMatchesModel", "match", "(I)I"⟩, 81), (⟨"GoatMatchesModel", "rains", "()V"⟩, 81), (⟨"GoatMatchesModel", "exchange", "(I)V"⟩, 81), (⟨"GoatMatchesModel", "goFar", "(II)V"⟩, 81), (⟨"GoatMatchesModel", "mixedMore", "(II)I"⟩, 81), (⟨"GoatMatchesModel", "trickOf", "(IIIII)I"⟩, 81), (⟨"GoatMatchesModel", "isTrick", "(IIIIIII)Z"⟩, 81), (⟨"GoatMatchesModel", "isFree", "(I)Z"⟩, 81), (⟨"GoatMatchesModel", "pens", "()I"⟩, 81), (⟨"GoatMatchesModel", "isHeld", "(IIII)Z"⟩, 81), (⟨"GoatMatchesModel", "mixedFrom", "(IIII)I"⟩, 81), (⟨"GoatMatchesModel", "rowsOf", "()I"⟩, 81), (⟨"GoatMatchesModel", "layPairs", "(I)Z"⟩, 81), (⟨"GoatMatchesModel", "couldBe", "(II)Z"⟩, 81), (⟨"GoatMatchesModel", "isCalm", "()Z"⟩, 81), (⟨"GoatMatchesModel", "has", "(I)I"⟩, 81)]
theorem lw_r7 : ∀ q ∈ lw_privs_7, lw_okq q := List.forall_mem_cons.mpr ⟨lw_p96, List.forall_mem_cons.mpr ⟨lw_p97, List.forall_mem_cons.mpr ⟨lw_p98, List.forall_mem_cons.mpr ⟨lw_p99, List.forall_mem_cons.mpr ⟨lw_p100, List.forall_mem_cons.mpr ⟨lw_p101, List.forall_mem_cons.mpr ⟨lw_p102, List.forall_mem_cons.mpr ⟨lw_p103, List.forall_mem_cons.mpr ⟨lw_p104, List.forall_mem_cons.mpr ⟨lw_p105, List.forall_mem_cons.mpr ⟨lw_p106, List.forall_mem_cons.mpr ⟨lw_p107, List.forall_mem_cons.mpr ⟨lw_p108, List.forall_mem_cons.mpr ⟨lw_p109, List.forall_mem_cons.mpr ⟨lw_p110, List.forall_mem_cons.mpr ⟨lw_p111, fun _ h => absurd h List.not_mem_nil⟩⟩⟩⟩⟩⟩⟩⟩⟩⟩⟩⟩⟩⟩⟩⟩
theorem lw_p112 : lw_okq (⟨"GoatMatchesModel", "allHave", "()I"⟩, 81) := ⟨⟨by decide +kernel, by decide +kernel⟩, List.mem_of_getElem? (i := 1200) (by decide +kernel), List.mem_of_getElem? (i := 1878) (by decide +kernel), List.mem_of_getElem? (i := 1879) (by decide +kernel)⟩
theorem lw_p113 : lw_okq (⟨"GoatMatchesModel", "lossOf", "()I"⟩, 81) := ⟨⟨by decide +kernel, by decide +kernel⟩, List.mem_of_getElem? (i := 1200) (by decide +kernel), List.mem_of_getElem? (i := 1887) (by decide +kernel), List.mem_of_getElem? (i := 1888) (by decide +kernel)⟩
theorem lw_p114 : lw_okq (⟨"GoatMatchesModel", "nextOrder", "()Z"⟩, 81) := ⟨⟨by decide +kernel, by decide +kernel⟩, List.mem_of_getElem? (i := 1200) (by decide +kernel), List.mem_of_getElem? (i := 1891) (by decide +kernel), List.mem_of_getElem? (i := 1892) (by decide +kernel)⟩
theorem lw_p115 : lw_okq (⟨"GoatMatchesModel", "exchangeOrder", "(II)V"⟩, 81) := ⟨⟨by decide +kernel, by decide +kernel⟩, List.mem_of_getElem? (i := 1200) (by decide +kernel), List.mem_of_getElem? (i := 1895) (by decide +kernel), List.mem_of_getElem? (i := 1896) (by decide +kernel)⟩
theorem lw_p116 : lw_okq (⟨"GoatMatchesModel", "isLedge", "(II)Z"⟩, 81) := ⟨⟨by decide +kernel, by decide +kernel⟩, List.mem_of_getElem? (i := 1200) (by decide +kernel), List.mem_of_getElem? (i := 1920) (by decide +kernel), List.mem_of_getElem? (i := 1921) (by decide +kernel)⟩
theorem lw_p117 : lw_okq (⟨"GoatMatchesModel", "isSeenSo", "(II)Z"⟩, 81) := ⟨⟨by decide +kernel, by decide +kernel⟩, List.mem_of_getElem? (i := 1200) (by decide +kernel), List.mem_of_getElem? (i := 1924) (by decide +kernel), List.mem_of_getElem? (i := 1925) (by decide +kernel)⟩
theorem lw_p118 : lw_okq (⟨"GoatMatchesModel", "layTally", "(II)V"⟩, 81) := ⟨⟨by decide +kernel, by decide +kernel⟩, List.mem_of_getElem? (i := 1200) (by decide +kernel), List.mem_of_getElem? (i := 1933) (by decide +kernel), List.mem_of_getElem? (i := 1934) (by decide +kernel)⟩
theorem lw_p119 : lw_okq (⟨"GoatMatchesModel", "mostOf", "(I)I"⟩, 81) := ⟨⟨by decide +kernel, by decide +kernel⟩, List.mem_of_getElem? (i := 1200) (by decide +kernel), List.mem_of_getElem? (i := 1937) (by decide +kernel), List.mem_of_getElem? (i := 1938) (by decide +kernel)⟩
def lw_privs_8 : List (MethodName × Nat) := [(⟨"GoatMatchesModel", "allHave", "()I"⟩, 81), (⟨"GoatMatchesModel", "lossOf", "()I"⟩, 81), (⟨"GoatMatchesModel", "nextOrder", "()Z"⟩, 81), (⟨"GoatMatchesModel", "exchangeOrder", "(II)V"⟩, 81), (⟨"GoatMatchesModel", "isLedge", "(II)Z"⟩, 81), (⟨"GoatMatchesModel", "isSeenSo", "(II)Z"⟩, 81), (⟨"GoatMatchesModel", "layTally", "(II)V"⟩, 81), (⟨"GoatMatchesModel", "mostOf", "(I)I"⟩, 81)]
theorem lw_r8 : ∀ q ∈ lw_privs_8, lw_okq q := List.forall_mem_cons.mpr ⟨lw_p112, List.forall_mem_cons.mpr ⟨lw_p113, List.forall_mem_cons.mpr ⟨lw_p114, List.forall_mem_cons.mpr ⟨lw_p115, List.forall_mem_cons.mpr ⟨lw_p116, List.forall_mem_cons.mpr ⟨lw_p117, List.forall_mem_cons.mpr ⟨lw_p118, List.forall_mem_cons.mpr ⟨lw_p119, fun _ h => absurd h List.not_mem_nil⟩⟩⟩⟩⟩⟩⟩⟩
def lw_privs : List (MethodName × Nat) := lw_privs_1 ++ (lw_privs_2 ++ (lw_privs_3 ++ (lw_privs_4 ++ (lw_privs_5 ++ (lw_privs_6 ++ (lw_privs_7 ++ (lw_privs_8)))))))
def lw_tbl : List Cond := k2_sels lw_privs ++ tables_1
theorem lw_privs_ok : ∀ q ∈ lw_privs, lw_okq q := by
  show ∀ q ∈ lw_privs_1 ++ (lw_privs_2 ++ (lw_privs_3 ++ (lw_privs_4 ++ (lw_privs_5 ++ (lw_privs_6 ++ (lw_privs_7 ++ (lw_privs_8))))))), lw_okq q
  exact List.forall_mem_append.mpr ⟨lw_r1, List.forall_mem_append.mpr ⟨lw_r2, List.forall_mem_append.mpr ⟨lw_r3, List.forall_mem_append.mpr ⟨lw_r4, List.forall_mem_append.mpr ⟨lw_r5, List.forall_mem_append.mpr ⟨lw_r6, List.forall_mem_append.mpr ⟨lw_r7, lw_r8⟩⟩⟩⟩⟩⟩⟩
theorem goodIn_r {big : List Cond} (ws : List Cond) (ps : List Nat) (hp : ws = ps.filterMap (fun i => big[i]?)) (h : ws.all goodWord = true) : GoodIn big ws := by
  intro w hw
  have h1 := List.all_eq_true.mp h w hw
  rw [hp] at hw
  obtain ⟨i, -, hi⟩ := List.mem_filterMap.mp hw
  have hm : w ∈ big := by first | exact List.mem_of_getElem? hi | exact List.getElem?_mem hi
  exact ⟨hm, good_of_word h1⟩
theorem goodIn_app {big a b : List Cond} (ha : GoodIn big a) (hb : GoodIn big b) : GoodIn big (a ++ b) := fun w h => (List.mem_append.mp h).elim (ha w) (hb w)
theorem goodIn_ca {big a b : List Cond} {c : Cond} (ha : GoodIn big (c :: a)) (hb : GoodIn big b) : GoodIn big (c :: (a ++ b)) := fun w h => (List.mem_cons.mp h).elim (fun e => ha w (List.mem_cons.mpr (Or.inl e))) (fun h => (List.mem_append.mp h).elim (fun h => ha w (List.mem_cons.mpr (Or.inr h))) (hb w))
theorem goodIn_sub {big ws : List Cond} (hm : ∀ w ∈ ws, w ∈ big) (h : ws.all goodWord = true) : GoodIn big ws := fun w hw => ⟨hm w hw, good_of_word (List.all_eq_true.mp h w hw)⟩
def RX0 : String := "GoatMatches$Foresight"
def TX0 : u_T := fun k => match k with
  | 0 => ("GoatMatches$Foresight", "walk", "LGoatMatches$Walk;", true)
  | 1 => ("GoatMatches$Foresight", "trial", "LGoatMatches$Herds;", true)
  | 2 => ("GoatMatches$Foresight", "lookedAt", "[I", true)
  | 3 => ("GoatMatches$Foresight", "often", "[I", true)
  | 4 => ("GoatMatches$Foresight", "flock", "I", false)
  | 5 => ("GoatMatches$Foresight", "other", "I", false)
  | 6 => ("GoatMatches$Foresight", "evenings", "I", false)
  | 7 => ("GoatMatches$Foresight", "days", "I", false)
  | _ => ("GoatMatches$Foresight", "most", "I", false)
def tyX0 : Nat → FieldType := fun k => match k with
  | 0 => .object "GoatMatches$Walk"
  | 1 => .object "GoatMatches$Herds"
  | 2 => .array .int
  | 3 => .array .int
  | 4 => .int
  | 5 => .int
  | 6 => .int
  | 7 => .int
  | _ => .int
abbrev wsX00 : List Cond := u_ws RX0 TX0 9
theorem nmX0 : ∀ a, a < 9 → ∀ b, b < 9 → a ≠ b → (TX0 a).2.1 ≠ (TX0 b).2.1 := by decide +kernel
theorem tyX0_ok : ∀ k, k < 9 → parseFieldDescriptor (TX0 k).2.2.1 = some (tyX0 k) := by decide +kernel
abbrev cX0_init : ByteArray := prog_2_method_1_code
def yX0_init : MethodName := ⟨RX0, "<init>", "(LGoatMatches$Walk;)V"⟩
abbrev cX0_behind : ByteArray := prog_2_method_2_code
def yX0_behind : MethodName := ⟨RX0, "behind", "(LGoatMatches$Herds;I)LGoatMatches$Herds;"⟩
abbrev cX0_daysToMatch : ByteArray := prog_2_method_3_code
def yX0_daysToMatch : MethodName := ⟨RX0, "daysToMatch", "(LGoatMatches$Herds;I)I"⟩
abbrev cX0_daysToBare : ByteArray := prog_2_method_4_code
def yX0_daysToBare : MethodName := ⟨RX0, "daysToBare", "(LGoatMatches$Herds;)I"⟩
abbrev cX0_singleAtLast : ByteArray := prog_2_method_5_code
def yX0_singleAtLast : MethodName := ⟨RX0, "singleAtLast", "(LGoatMatches$Herds;I)I"⟩
abbrev cX0_askOf : ByteArray := prog_2_method_6_code
def yX0_askOf : MethodName := ⟨RX0, "askOf", "(IIII)V"⟩
abbrev cX0_mixEnough : ByteArray := prog_2_method_7_code
def yX0_mixEnough : MethodName := ⟨RX0, "mixEnough", "(LGoatMatches$Herds;II)Z"⟩
abbrev cX0_leastSalt : ByteArray := prog_2_method_8_code
def yX0_leastSalt : MethodName := ⟨RX0, "leastSalt", "(LGoatMatches$Herds;)I"⟩
abbrev cX0_leastOne : ByteArray := prog_2_method_9_code
def yX0_leastOne : MethodName := ⟨RX0, "leastOne", "(LGoatMatches$Herds;I)I"⟩
abbrev cX0_leastTwo : ByteArray := prog_2_method_10_code
def yX0_leastTwo : MethodName := ⟨RX0, "leastTwo", "(LGoatMatches$Herds;)I"⟩
abbrev cX0_leastThree : ByteArray := prog_2_method_11_code
def yX0_leastThree : MethodName := ⟨RX0, "leastThree", "(LGoatMatches$Herds;)I"⟩
abbrev cX0_eachIsLookedAt : ByteArray := prog_2_method_12_code
def yX0_eachIsLookedAt : MethodName := ⟨RX0, "eachIsLookedAt", "(III)Z"⟩
abbrev cX0_leastPens : ByteArray := prog_2_method_13_code
def yX0_leastPens : MethodName := ⟨RX0, "leastPens", "(LGoatMatches$Herds;)I"⟩
abbrev cX0_bestDrive : ByteArray := prog_2_method_14_code
def yX0_bestDrive : MethodName := ⟨RX0, "bestDrive", "(LGoatMatches$Herds;)I"⟩
abbrev cX0_mixesFrom : ByteArray := prog_2_method_15_code
def yX0_mixesFrom : MethodName := ⟨RX0, "mixesFrom", "(LGoatMatches$Herds;I)I"⟩
abbrev cX0_saltedAtNight : ByteArray := prog_2_method_16_code
def yX0_saltedAtNight : MethodName := ⟨RX0, "saltedAtNight", "(LGoatMatches$Herds;LGoatMatches$Sights;I)I"⟩
abbrev cX0_explains : ByteArray := prog_2_method_17_code
def yX0_explains : MethodName := ⟨RX0, "explains", "(LGoatMatches$Herds;ILGoatMatches$Sights;II)Z"⟩
abbrev cX0_nextToWatch : ByteArray := prog_2_method_18_code
def yX0_nextToWatch : MethodName := ⟨RX0, "nextToWatch", "(LGoatMatches$Herds;II)I"⟩
abbrev cX0_countWhere : ByteArray := prog_2_method_19_code
def yX0_countWhere : MethodName := ⟨RX0, "countWhere", "(LGoatMatches$Herds;II)V"⟩
def RX1 : String := "GoatMatches$Gorge"
def TX1 : u_T := fun k => match k with
  | 0 => ("GoatMatches$Gorge", "name", "[J", true)
  | 1 => ("GoatMatches$Gorge", "side", "[I", true)
  | 2 => ("GoatMatches$Gorge", "size", "[I", true)
  | 3 => ("GoatMatches$Gorge", "home", "[I", true)
  | 4 => ("GoatMatches$Gorge", "foes", "[I", true)
  | 5 => ("GoatMatches$Gorge", "wish", "[I", true)
  | 6 => ("GoatMatches$Gorge", "grass", "[I", true)
  | 7 => ("GoatMatches$Gorge", "steps", "[I", true)
  | 8 => ("GoatMatches$Gorge", "near", "[I", true)
  | 9 => ("GoatMatches$Gorge", "far", "[I", true)
  | 10 => ("GoatMatches$Gorge", "columns", "I", false)
  | 11 => ("GoatMatches$Gorge", "rows", "I", false)
  | 12 => ("GoatMatches$Gorge", "flocks", "I", false)
  | 13 => ("GoatMatches$Gorge", "feuds", "I", false)
  | 14 => ("GoatMatches$Gorge", "units", "I", false)
  | 15 => ("GoatMatches$Gorge", "stepCount", "I", false)
  | 16 => ("GoatMatches$Gorge", "rainOdds", "I", false)
  | 17 => ("GoatMatches$Gorge", "rainGrass", "I", false)
  | 18 => ("GoatMatches$Gorge", "evenings", "I", false)
  | _ => ("GoatMatches$Gorge", "draw", "I", false)
def tyX1 : Nat → FieldType := fun k => match k with
  | 0 => .array .long
  | 1 => .array .int
  | 2 => .array .int
  | 3 => .array .int
  | 4 => .array .int
  | 5 => .array .int
  | 6 => .array .int
  | 7 => .array .int
  | 8 => .array .int
  | 9 => .array .int
  | 10 => .int
  | 11 => .int
  | 12 => .int
  | 13 => .int
  | 14 => .int
  | 15 => .int
  | 16 => .int
  | 17 => .int
  | 18 => .int
  | _ => .int
abbrev wsX10 : List Cond := u_ws RX1 TX1 20
theorem nmX1 : ∀ a, a < 20 → ∀ b, b < 20 → a ≠ b → (TX1 a).2.1 ≠ (TX1 b).2.1 := by decide +kernel
theorem tyX1_ok : ∀ k, k < 20 → parseFieldDescriptor (TX1 k).2.2.1 = some (tyX1 k) := by decide +kernel
abbrev cX1_init : ByteArray := prog_3_method_1_code
def yX1_init : MethodName := ⟨RX1, "<init>", "()V"⟩
abbrev cX1_clear : ByteArray := prog_3_method_2_code
def yX1_clear : MethodName := ⟨RX1, "clear", "()V"⟩
abbrev cX1_addFlock : ByteArray := prog_3_method_3_code
def yX1_addFlock : MethodName := ⟨RX1, "addFlock", "(JIII)V"⟩
abbrev cX1_addStep : ByteArray := prog_3_method_4_code
def yX1_addStep : MethodName := ⟨RX1, "addStep", "(I)V"⟩
abbrev cX1_readsSalt : ByteArray := prog_3_method_5_code
def yX1_readsSalt : MethodName := ⟨RX1, "readsSalt", "()Z"⟩
abbrev cX1_flockNamed : ByteArray := prog_3_method_6_code
def yX1_flockNamed : MethodName := ⟨RX1, "flockNamed", "(J)I"⟩
abbrev cX1_hasFlock : ByteArray := prog_3_method_7_code
def yX1_hasFlock : MethodName := ⟨RX1, "hasFlock", "(I)Z"⟩
abbrev cX1_cells : ByteArray := prog_3_method_8_code
def yX1_cells : MethodName := ⟨RX1, "cells", "()I"⟩
abbrev cX1_hasCell : ByteArray := prog_3_method_9_code
def yX1_hasCell : MethodName := ⟨RX1, "hasCell", "(I)Z"⟩
abbrev cX1_haveFeud : ByteArray := prog_3_method_10_code
def yX1_haveFeud : MethodName := ⟨RX1, "haveFeud", "(II)Z"⟩
abbrev cX1_canMix : ByteArray := prog_3_method_11_code
def yX1_canMix : MethodName := ⟨RX1, "canMix", "(II)Z"⟩
abbrev cX1_wanted : ByteArray := prog_3_method_12_code
def yX1_wanted : MethodName := ⟨RX1, "wanted", "(II)I"⟩
abbrev cX1_couldPair : ByteArray := prog_3_method_13_code
def yX1_couldPair : MethodName := ⟨RX1, "couldPair", "(II)Z"⟩
abbrev cX1_rowOf : ByteArray := prog_3_method_14_code
def yX1_rowOf : MethodName := ⟨RX1, "rowOf", "(I)I"⟩
abbrev cX1_columnOf : ByteArray := prog_3_method_15_code
def yX1_columnOf : MethodName := ⟨RX1, "columnOf", "(I)I"⟩
abbrev cX1_apart : ByteArray := prog_3_method_16_code
def yX1_apart : MethodName := ⟨RX1, "apart", "(II)I"⟩
abbrev cX1_measure : ByteArray := prog_3_method_17_code
def yX1_measure : MethodName := ⟨RX1, "measure", "()V"⟩
def RX2 : String := "GoatMatches$Herds"
def TX2 : u_T := fun k => match k with
  | 0 => ("GoatMatches$Herds", "at", "[I", true)
  | 1 => ("GoatMatches$Herds", "mate", "[I", true)
  | 2 => ("GoatMatches$Herds", "grass", "[I", true)
  | 3 => ("GoatMatches$Herds", "salt", "[I", true)
  | 4 => ("GoatMatches$Herds", "mixed", "[I", true)
  | 5 => ("GoatMatches$Herds", "penned", "I", false)
  | 6 => ("GoatMatches$Herds", "day", "I", false)
  | _ => ("GoatMatches$Herds", "seed", "I", false)
def tyX2 : Nat → FieldType := fun k => match k with
  | 0 => .array .int
  | 1 => .array .int
  | 2 => .array .int
  | 3 => .array .int
  | 4 => .array .int
  | 5 => .int
  | 6 => .int
  | _ => .int
abbrev wsX20 : List Cond := u_ws RX2 TX2 8
theorem nmX2 : ∀ a, a < 8 → ∀ b, b < 8 → a ≠ b → (TX2 a).2.1 ≠ (TX2 b).2.1 := by decide +kernel
theorem tyX2_ok : ∀ k, k < 8 → parseFieldDescriptor (TX2 k).2.2.1 = some (tyX2 k) := by decide +kernel
abbrev cX2_init : ByteArray := prog_4_method_1_code
def yX2_init : MethodName := ⟨RX2, "<init>", "()V"⟩
abbrev cX2_begin : ByteArray := prog_4_method_2_code
def yX2_begin : MethodName := ⟨RX2, "begin", "(LGoatMatches$Gorge;)V"⟩
abbrev cX2_copy : ByteArray := prog_4_method_3_code
def yX2_copy : MethodName := ⟨RX2, "copy", "(LGoatMatches$Herds;)V"⟩
abbrev cX2_pairOf : ByteArray := prog_4_method_4_code
def yX2_pairOf : MethodName := ⟨RX2, "pairOf", "(II)I"⟩
abbrev cX2_mixedOf : ByteArray := prog_4_method_5_code
def yX2_mixedOf : MethodName := ⟨RX2, "mixedOf", "(II)I"⟩
abbrev cX2_mix : ByteArray := prog_4_method_6_code
def yX2_mix : MethodName := ⟨RX2, "mix", "(II)V"⟩
abbrev cX2_isPenned : ByteArray := prog_4_method_7_code
def yX2_isPenned : MethodName := ⟨RX2, "isPenned", "(I)Z"⟩
abbrev cX2_wed : ByteArray := prog_4_method_8_code
def yX2_wed : MethodName := ⟨RX2, "wed", "(II)V"⟩
abbrev cX2_part : ByteArray := prog_4_method_9_code
def yX2_part : MethodName := ⟨RX2, "part", "(I)I"⟩
abbrev cX2_herdsIn : ByteArray := prog_4_method_10_code
def yX2_herdsIn : MethodName := ⟨RX2, "herdsIn", "(II)I"⟩
abbrev cX2_single : ByteArray := prog_4_method_11_code
def yX2_single : MethodName := ⟨RX2, "single", "(I)I"⟩
abbrev cX2_allGrass : ByteArray := prog_4_method_12_code
def yX2_allGrass : MethodName := ⟨RX2, "allGrass", "()I"⟩
def RX3 : String := "GoatMatches$Pairs"
def TX3 : u_T := fun k => match k with
  | 0 => ("GoatMatches$Pairs", "with", "[I", true)
  | 1 => ("GoatMatches$Pairs", "first", "[I", true)
  | 2 => ("GoatMatches$Pairs", "dearest", "[I", true)
  | 3 => ("GoatMatches$Pairs", "reached", "[I", true)
  | 4 => ("GoatMatches$Pairs", "calm", "I", false)
  | 5 => ("GoatMatches$Pairs", "dear", "I", false)
  | _ => ("GoatMatches$Pairs", "gorge", "LGoatMatches$Gorge;", false)
def tyX3 : Nat → FieldType := fun k => match k with
  | 0 => .array .int
  | 1 => .array .int
  | 2 => .array .int
  | 3 => .array .int
  | 4 => .int
  | 5 => .int
  | _ => .object "GoatMatches$Gorge"
abbrev wsX30 : List Cond := u_ws RX3 TX3 7
theorem nmX3 : ∀ a, a < 7 → ∀ b, b < 7 → a ≠ b → (TX3 a).2.1 ≠ (TX3 b).2.1 := by decide +kernel
theorem tyX3_ok : ∀ k, k < 7 → parseFieldDescriptor (TX3 k).2.2.1 = some (tyX3 k) := by decide +kernel
abbrev cX3_init : ByteArray := prog_5_method_1_code
def yX3_init : MethodName := ⟨RX3, "<init>", "(LGoatMatches$Gorge;)V"⟩
abbrev cX3_search : ByteArray := prog_5_method_2_code
def yX3_search : MethodName := ⟨RX3, "search", "(LGoatMatches$Gorge;)V"⟩
abbrev cX3_pairFrom : ByteArray := prog_5_method_3_code
def yX3_pairFrom : MethodName := ⟨RX3, "pairFrom", "(I)V"⟩
abbrev cX3_has : ByteArray := prog_5_method_4_code
def yX3_has : MethodName := ⟨RX3, "has", "(I)I"⟩
abbrev cX3_isCalm : ByteArray := prog_5_method_5_code
def yX3_isCalm : MethodName := ⟨RX3, "isCalm", "()Z"⟩
abbrev cX3_note : ByteArray := prog_5_method_6_code
def yX3_note : MethodName := ⟨RX3, "note", "()V"⟩
def RX4 : String := "GoatMatches$Past"
def TX4 : u_T := fun k => match k with
  | 0 => ("GoatMatches$Past", "kept", "[LGoatMatches$Herds;", true)
  | 1 => ("GoatMatches$Past", "done", "I", false)
  | _ => ("GoatMatches$Past", "undone", "I", false)
def tyX4 : Nat → FieldType := fun k => match k with
  | 0 => .array (.object "GoatMatches$Herds")
  | 1 => .int
  | _ => .int
abbrev wsX40 : List Cond := u_ws RX4 TX4 3
theorem nmX4 : ∀ a, a < 3 → ∀ b, b < 3 → a ≠ b → (TX4 a).2.1 ≠ (TX4 b).2.1 := by decide +kernel
theorem tyX4_ok : ∀ k, k < 3 → parseFieldDescriptor (TX4 k).2.2.1 = some (tyX4 k) := by decide +kernel
abbrev cX4_init : ByteArray := prog_6_method_1_code
def yX4_init : MethodName := ⟨RX4, "<init>", "()V"⟩
abbrev cX4_forget : ByteArray := prog_6_method_2_code
def yX4_forget : MethodName := ⟨RX4, "forget", "()V"⟩
abbrev cX4_keep : ByteArray := prog_6_method_3_code
def yX4_keep : MethodName := ⟨RX4, "keep", "(LGoatMatches$Herds;)V"⟩
abbrev cX4_dropOldest : ByteArray := prog_6_method_4_code
def yX4_dropOldest : MethodName := ⟨RX4, "dropOldest", "()V"⟩
abbrev cX4_takeBack : ByteArray := prog_6_method_5_code
def yX4_takeBack : MethodName := ⟨RX4, "takeBack", "(LGoatMatches$Herds;)LGoatMatches$Herds;"⟩
abbrev cX4_doAgain : ByteArray := prog_6_method_6_code
def yX4_doAgain : MethodName := ⟨RX4, "doAgain", "(LGoatMatches$Herds;)LGoatMatches$Herds;"⟩
abbrev cX4_swap : ByteArray := prog_6_method_7_code
def yX4_swap : MethodName := ⟨RX4, "swap", "(ILGoatMatches$Herds;)LGoatMatches$Herds;"⟩
def RX5 : String := "GoatMatches$Reader"
def TX5 : u_T := fun k => match k with
  | 0 => ("GoatMatches$Reader", "tape", "LGoatMatches$Tape;", true)
  | 1 => ("GoatMatches$Reader", "fault", "I", false)
  | 2 => ("GoatMatches$Reader", "place", "I", false)
  | 3 => ("GoatMatches$Reader", "into", "LGoatMatches$Gorge;", false)
  | 4 => ("GoatMatches$Reader", "lines", "I", false)
  | 5 => ("GoatMatches$Reader", "grasses", "I", false)
  | _ => ("GoatMatches$Reader", "green", "I", false)
def tyX5 : Nat → FieldType := fun k => match k with
  | 0 => .object "GoatMatches$Tape"
  | 1 => .int
  | 2 => .int
  | 3 => .object "GoatMatches$Gorge"
  | 4 => .int
  | 5 => .int
  | _ => .int
abbrev wsX50 : List Cond := u_ws RX5 TX5 7
theorem nmX5 : ∀ a, a < 7 → ∀ b, b < 7 → a ≠ b → (TX5 a).2.1 ≠ (TX5 b).2.1 := by decide +kernel
theorem tyX5_ok : ∀ k, k < 7 → parseFieldDescriptor (TX5 k).2.2.1 = some (tyX5 k) := by decide +kernel
abbrev cX5_init : ByteArray := prog_7_method_1_code
def yX5_init : MethodName := ⟨RX5, "<init>", "(LGoatMatches$Tape;LGoatMatches$Gorge;)V"⟩
abbrev cX5_reads : ByteArray := prog_7_method_2_code
def yX5_reads : MethodName := ⟨RX5, "reads", "(LGoatMatches$Gorge;)Z"⟩
abbrev cX5_sow : ByteArray := prog_7_method_3_code
def yX5_sow : MethodName := ⟨RX5, "sow", "()V"⟩
abbrev cX5_isSound : ByteArray := prog_7_method_4_code
def yX5_isSound : MethodName := ⟨RX5, "isSound", "()Z"⟩
abbrev cX5_fail : ByteArray := prog_7_method_5_code
def yX5_fail : MethodName := ⟨RX5, "fail", "(I)V"⟩
abbrev cX5_need : ByteArray := prog_7_method_6_code
def yX5_need : MethodName := ⟨RX5, "need", "(I)V"⟩
abbrev cX5_number : ByteArray := prog_7_method_7_code
def yX5_number : MethodName := ⟨RX5, "number", "(II)I"⟩
abbrev cX5_mayBegin : ByteArray := prog_7_method_8_code
def yX5_mayBegin : MethodName := ⟨RX5, "mayBegin", "(I)Z"⟩
abbrev cX5_line : ByteArray := prog_7_method_9_code
def yX5_line : MethodName := ⟨RX5, "line", "()V"⟩
abbrev cX5_gorgeBody : ByteArray := prog_7_method_10_code
def yX5_gorgeBody : MethodName := ⟨RX5, "gorgeBody", "()V"⟩
abbrev cX5_rainBody : ByteArray := prog_7_method_11_code
def yX5_rainBody : MethodName := ⟨RX5, "rainBody", "()V"⟩
abbrev cX5_grassBody : ByteArray := prog_7_method_12_code
def yX5_grassBody : MethodName := ⟨RX5, "grassBody", "()V"⟩
abbrev cX5_flockBody : ByteArray := prog_7_method_13_code
def yX5_flockBody : MethodName := ⟨RX5, "flockBody", "()V"⟩
abbrev cX5_named : ByteArray := prog_7_method_14_code
def yX5_named : MethodName := ⟨RX5, "named", "()I"⟩
abbrev cX5_wantsBody : ByteArray := prog_7_method_15_code
def yX5_wantsBody : MethodName := ⟨RX5, "wantsBody", "()V"⟩
abbrev cX5_feudBody : ByteArray := prog_7_method_16_code
def yX5_feudBody : MethodName := ⟨RX5, "feudBody", "()V"⟩
abbrev cX5_formula : ByteArray := prog_7_method_17_code
def yX5_formula : MethodName := ⟨RX5, "formula", "(II)V"⟩
abbrev cX5_levelOf : ByteArray := prog_7_method_18_code
def yX5_levelOf : MethodName := ⟨RX5, "levelOf", "(I)I"⟩
abbrev cX5_negation : ByteArray := prog_7_method_19_code
def yX5_negation : MethodName := ⟨RX5, "negation", "(I)V"⟩
abbrev cX5_unit : ByteArray := prog_7_method_20_code
def yX5_unit : MethodName := ⟨RX5, "unit", "(I)V"⟩
abbrev cX5_isUnit : ByteArray := prog_7_method_21_code
def yX5_isUnit : MethodName := ⟨RX5, "isUnit", "(I)Z"⟩
abbrev cX5_isUnitWord : ByteArray := prog_7_method_22_code
def yX5_isUnitWord : MethodName := ⟨RX5, "isUnitWord", "(I)Z"⟩
def RX6 : String := "GoatMatches$Sights"
def TX6 : u_T := fun k => match k with
  | 0 => ("GoatMatches$Sights", "days", "[I", true)
  | 1 => ("GoatMatches$Sights", "flock", "[I", true)
  | 2 => ("GoatMatches$Sights", "cell", "[I", true)
  | 3 => ("GoatMatches$Sights", "there", "[Z", true)
  | 4 => ("GoatMatches$Sights", "toldAt", "[I", true)
  | 5 => ("GoatMatches$Sights", "untoldAt", "[I", true)
  | 6 => ("GoatMatches$Sights", "count", "I", false)
  | _ => ("GoatMatches$Sights", "time", "I", false)
def tyX6 : Nat → FieldType := fun k => match k with
  | 0 => .array .int
  | 1 => .array .int
  | 2 => .array .int
  | 3 => .array .boolean
  | 4 => .array .int
  | 5 => .array .int
  | 6 => .int
  | _ => .int
abbrev wsX60 : List Cond := u_ws RX6 TX6 8
theorem nmX6 : ∀ a, a < 8 → ∀ b, b < 8 → a ≠ b → (TX6 a).2.1 ≠ (TX6 b).2.1 := by decide +kernel
theorem tyX6_ok : ∀ k, k < 8 → parseFieldDescriptor (TX6 k).2.2.1 = some (tyX6 k) := by decide +kernel
abbrev cX6_init : ByteArray := prog_8_method_1_code
def yX6_init : MethodName := ⟨RX6, "<init>", "()V"⟩
abbrev cX6_tell : ByteArray := prog_8_method_2_code
def yX6_tell : MethodName := ⟨RX6, "tell", "(IIIZ)I"⟩
abbrev cX6_takeBack : ByteArray := prog_8_method_3_code
def yX6_takeBack : MethodName := ⟨RX6, "takeBack", "(I)Z"⟩
abbrev cX6_isKnown : ByteArray := prog_8_method_4_code
def yX6_isKnown : MethodName := ⟨RX6, "isKnown", "(II)Z"⟩
abbrev cX6_lastDay : ByteArray := prog_8_method_5_code
def yX6_lastDay : MethodName := ⟨RX6, "lastDay", "(I)I"⟩
abbrev cX6_agree : ByteArray := prog_8_method_6_code
def yX6_agree : MethodName := ⟨RX6, "agree", "(LGoatMatches$Herds;II)Z"⟩
def RX7 : String := "GoatMatches$Tape"
def TX7 : u_T := fun k => match k with
  | 0 => ("GoatMatches$Tape", "bytes", "[B", true)
  | 1 => ("GoatMatches$Tape", "reserved", "[J", true)
  | 2 => ("GoatMatches$Tape", "length", "I", false)
  | 3 => ("GoatMatches$Tape", "kind", "I", false)
  | 4 => ("GoatMatches$Tape", "start", "I", false)
  | 5 => ("GoatMatches$Tape", "value", "I", false)
  | 6 => ("GoatMatches$Tape", "word", "J", false)
  | _ => ("GoatMatches$Tape", "next", "I", false)
def tyX7 : Nat → FieldType := fun k => match k with
  | 0 => .array .byte
  | 1 => .array .long
  | 2 => .int
  | 3 => .int
  | 4 => .int
  | 5 => .int
  | 6 => .long
  | _ => .int
abbrev wsX70 : List Cond := u_ws RX7 TX7 8
theorem nmX7 : ∀ a, a < 8 → ∀ b, b < 8 → a ≠ b → (TX7 a).2.1 ≠ (TX7 b).2.1 := by decide +kernel
theorem tyX7_ok : ∀ k, k < 8 → parseFieldDescriptor (TX7 k).2.2.1 = some (tyX7 k) := by decide +kernel
abbrev cX7_init : ByteArray := prog_9_method_1_code
def yX7_init : MethodName := ⟨RX7, "<init>", "()V"⟩
abbrev cX7_add : ByteArray := prog_9_method_2_code
def yX7_add : MethodName := ⟨RX7, "add", "(I)V"⟩
abbrev cX7_rewind : ByteArray := prog_9_method_3_code
def yX7_rewind : MethodName := ⟨RX7, "rewind", "()V"⟩
abbrev cX7_step : ByteArray := prog_9_method_4_code
def yX7_step : MethodName := ⟨RX7, "step", "()V"⟩
abbrev cX7_readWord : ByteArray := prog_9_method_5_code
def yX7_readWord : MethodName := ⟨RX7, "readWord", "()V"⟩
abbrev cX7_readNumber : ByteArray := prog_9_method_6_code
def yX7_readNumber : MethodName := ⟨RX7, "readNumber", "()V"⟩
abbrev cX7_readSign : ByteArray := prog_9_method_7_code
def yX7_readSign : MethodName := ⟨RX7, "readSign", "()V"⟩
abbrev cX7_withLetter : ByteArray := prog_9_method_8_code
def yX7_withLetter : MethodName := ⟨RX7, "withLetter", "(JI)J"⟩
abbrev cX7_isBlank : ByteArray := prog_9_method_9_code
def yX7_isBlank : MethodName := ⟨RX7, "isBlank", "(I)Z"⟩
abbrev cX7_isLetter : ByteArray := prog_9_method_10_code
def yX7_isLetter : MethodName := ⟨RX7, "isLetter", "(I)Z"⟩
abbrev cX7_isDigit : ByteArray := prog_9_method_11_code
def yX7_isDigit : MethodName := ⟨RX7, "isDigit", "(I)Z"⟩
def RX8 : String := "GoatMatches$Walk"
def TX8 : u_T := fun k => match k with
  | 0 => ("GoatMatches$Walk", "stack", "[I", true)
  | 1 => ("GoatMatches$Walk", "goal", "[I", true)
  | 2 => ("GoatMatches$Walk", "crowd", "[I", true)
  | 3 => ("GoatMatches$Walk", "gorge", "LGoatMatches$Gorge;", false)
  | _ => ("GoatMatches$Walk", "looked", "I", false)
def tyX8 : Nat → FieldType := fun k => match k with
  | 0 => .array .int
  | 1 => .array .int
  | 2 => .array .int
  | 3 => .object "GoatMatches$Gorge"
  | _ => .int
abbrev wsX80 : List Cond := u_ws RX8 TX8 5
theorem nmX8 : ∀ a, a < 5 → ∀ b, b < 5 → a ≠ b → (TX8 a).2.1 ≠ (TX8 b).2.1 := by decide +kernel
theorem tyX8_ok : ∀ k, k < 5 → parseFieldDescriptor (TX8 k).2.2.1 = some (tyX8 k) := by decide +kernel
abbrev cX8_init : ByteArray := prog_10_method_1_code
def yX8_init : MethodName := ⟨RX8, "<init>", "(LGoatMatches$Gorge;)V"⟩
abbrev cX8_count : ByteArray := prog_10_method_2_code
def yX8_count : MethodName := ⟨RX8, "count", "(LGoatMatches$Herds;)V"⟩
abbrev cX8_worth : ByteArray := prog_10_method_3_code
def yX8_worth : MethodName := ⟨RX8, "worth", "(LGoatMatches$Herds;II)I"⟩
abbrev cX8_unitWorth : ByteArray := prog_10_method_4_code
def yX8_unitWorth : MethodName := ⟨RX8, "unitWorth", "(ILGoatMatches$Herds;II)I"⟩
abbrev cX8_joined : ByteArray := prog_10_method_5_code
def yX8_joined : MethodName := ⟨RX8, "joined", "(III)I"⟩
abbrev cX8_pass : ByteArray := prog_10_method_6_code
def yX8_pass : MethodName := ⟨RX8, "pass", "(LGoatMatches$Herds;I)I"⟩
abbrev cX8_go : ByteArray := prog_10_method_7_code
def yX8_go : MethodName := ⟨RX8, "go", "(LGoatMatches$Herds;)V"⟩
abbrev cX8_eat : ByteArray := prog_10_method_8_code
def yX8_eat : MethodName := ⟨RX8, "eat", "(LGoatMatches$Herds;)V"⟩
abbrev cX8_mingle : ByteArray := prog_10_method_9_code
def yX8_mingle : MethodName := ⟨RX8, "mingle", "(LGoatMatches$Herds;)V"⟩
abbrev cX8_match : ByteArray := prog_10_method_10_code
def yX8_match : MethodName := ⟨RX8, "match", "(LGoatMatches$Herds;I)I"⟩
abbrev cX8_rain : ByteArray := prog_10_method_11_code
def yX8_rain : MethodName := ⟨RX8, "rain", "(LGoatMatches$Herds;)V"⟩
def RX9 : String := "GoatMatches"
def TX9 : u_T := fun k => match k with
  | 0 => ("GoatMatches", "told", "LGoatMatches$Gorge;", false)
  | 1 => ("GoatMatches", "spare", "LGoatMatches$Gorge;", false)
  | 2 => ("GoatMatches", "now", "LGoatMatches$Herds;", false)
  | 3 => ("GoatMatches", "tape", "LGoatMatches$Tape;", true)
  | 4 => ("GoatMatches", "reader", "LGoatMatches$Reader;", true)
  | 5 => ("GoatMatches", "walk", "LGoatMatches$Walk;", true)
  | 6 => ("GoatMatches", "foresight", "LGoatMatches$Foresight;", true)
  | 7 => ("GoatMatches", "past", "LGoatMatches$Past;", true)
  | 8 => ("GoatMatches", "pairs", "LGoatMatches$Pairs;", true)
  | 9 => ("GoatMatches", "sights", "LGoatMatches$Sights;", true)
  | 10 => ("GoatMatches", "boxes", "[LGoatMatches$Herds;", true)
  | 11 => ("GoatMatches", "lying", "[I", true)
  | 12 => ("GoatMatches", "boxed", "I", false)
  | _ => ("GoatMatches", "lie", "I", false)
def tyX9 : Nat → FieldType := fun k => match k with
  | 0 => .object "GoatMatches$Gorge"
  | 1 => .object "GoatMatches$Gorge"
  | 2 => .object "GoatMatches$Herds"
  | 3 => .object "GoatMatches$Tape"
  | 4 => .object "GoatMatches$Reader"
  | 5 => .object "GoatMatches$Walk"
  | 6 => .object "GoatMatches$Foresight"
  | 7 => .object "GoatMatches$Past"
  | 8 => .object "GoatMatches$Pairs"
  | 9 => .object "GoatMatches$Sights"
  | 10 => .array (.object "GoatMatches$Herds")
  | 11 => .array .int
  | 12 => .int
  | _ => .int
abbrev wsX90 : List Cond := u_ws RX9 TX9 14
theorem nmX9 : ∀ a, a < 14 → ∀ b, b < 14 → a ≠ b → (TX9 a).2.1 ≠ (TX9 b).2.1 := by decide +kernel
theorem tyX9_ok : ∀ k, k < 14 → parseFieldDescriptor (TX9 k).2.2.1 = some (tyX9 k) := by decide +kernel
abbrev cX9_init : ByteArray := prog_1_method_1_code
def yX9_init : MethodName := ⟨RX9, "<init>", "()V"⟩
abbrev cX9_settle : ByteArray := prog_1_method_2_code
def yX9_settle : MethodName := ⟨RX9, "settle", "()V"⟩
abbrev cX9_feed : ByteArray := prog_1_method_3_code
def yX9_feed : MethodName := ⟨RX9, "feed", "(IIIII)I"⟩
abbrev cX9_end : ByteArray := prog_1_method_4_code
def yX9_end : MethodName := ⟨RX9, "end", "(I)I"⟩
abbrev cX9_gorge : ByteArray := prog_1_method_5_code
def yX9_gorge : MethodName := ⟨RX9, "gorge", "()I"⟩
abbrev cX9_fault : ByteArray := prog_1_method_6_code
def yX9_fault : MethodName := ⟨RX9, "fault", "(I)I"⟩
abbrev cX9_flock : ByteArray := prog_1_method_7_code
def yX9_flock : MethodName := ⟨RX9, "flock", "(II)I"⟩
abbrev cX9_ground : ByteArray := prog_1_method_8_code
def yX9_ground : MethodName := ⟨RX9, "ground", "(II)I"⟩
abbrev cX9_pull : ByteArray := prog_1_method_9_code
def yX9_pull : MethodName := ⟨RX9, "pull", "(II)I"⟩
abbrev cX9_mixed : ByteArray := prog_1_method_10_code
def yX9_mixed : MethodName := ⟨RX9, "mixed", "(II)I"⟩
abbrev cX9_wants : ByteArray := prog_1_method_11_code
def yX9_wants : MethodName := ⟨RX9, "wants", "(II)I"⟩
abbrev cX9_grass : ByteArray := prog_1_method_12_code
def yX9_grass : MethodName := ⟨RX9, "grass", "()I"⟩
abbrev cX9_matched : ByteArray := prog_1_method_13_code
def yX9_matched : MethodName := ⟨RX9, "matched", "()I"⟩
abbrev cX9_salt : ByteArray := prog_1_method_14_code
def yX9_salt : MethodName := ⟨RX9, "salt", "(I)I"⟩
abbrev cX9_pen : ByteArray := prog_1_method_15_code
def yX9_pen : MethodName := ⟨RX9, "pen", "(I)I"⟩
abbrev cX9_drive : ByteArray := prog_1_method_16_code
def yX9_drive : MethodName := ⟨RX9, "drive", "(II)I"⟩
abbrev cX9_breaks : ByteArray := prog_1_method_17_code
def yX9_breaks : MethodName := ⟨RX9, "breaks", "(I)I"⟩
abbrev cX9_day : ByteArray := prog_1_method_18_code
def yX9_day : MethodName := ⟨RX9, "day", "()I"⟩
abbrev cX9_undo : ByteArray := prog_1_method_19_code
def yX9_undo : MethodName := ⟨RX9, "undo", "()Z"⟩
abbrev cX9_redo : ByteArray := prog_1_method_20_code
def yX9_redo : MethodName := ⟨RX9, "redo", "()Z"⟩
abbrev cX9_will : ByteArray := prog_1_method_21_code
def yX9_will : MethodName := ⟨RX9, "will", "(II)I"⟩
abbrev cX9_mixes : ByteArray := prog_1_method_22_code
def yX9_mixes : MethodName := ⟨RX9, "mixes", "(III)I"⟩
abbrev cX9_weds : ByteArray := prog_1_method_23_code
def yX9_weds : MethodName := ⟨RX9, "weds", "(I)I"⟩
abbrev cX9_trick : ByteArray := prog_1_method_24_code
def yX9_trick : MethodName := ⟨RX9, "trick", "(IIIII)I"⟩
abbrev cX9_hold : ByteArray := prog_1_method_25_code
def yX9_hold : MethodName := ⟨RX9, "hold", "(IIII)I"⟩
abbrev cX9_lead : ByteArray := prog_1_method_26_code
def yX9_lead : MethodName := ⟨RX9, "lead", "(IIII)I"⟩
abbrev cX9_bachelors : ByteArray := prog_1_method_27_code
def yX9_bachelors : MethodName := ⟨RX9, "bachelors", "(I)I"⟩
abbrev cX9_dear : ByteArray := prog_1_method_28_code
def yX9_dear : MethodName := ⟨RX9, "dear", "()I"⟩
abbrev cX9_law : ByteArray := prog_1_method_29_code
def yX9_law : MethodName := ⟨RX9, "law", "(I)I"⟩
abbrev cX9_calm : ByteArray := prog_1_method_30_code
def yX9_calm : MethodName := ⟨RX9, "calm", "()I"⟩
abbrev cX9_reach : ByteArray := prog_1_method_31_code
def yX9_reach : MethodName := ⟨RX9, "reach", "(I)I"⟩
abbrev cX9_wells : ByteArray := prog_1_method_32_code
def yX9_wells : MethodName := ⟨RX9, "wells", "()I"⟩
abbrev cX9_hoursForLoss : ByteArray := prog_1_method_33_code
def yX9_hoursForLoss : MethodName := ⟨RX9, "hoursForLoss", "(I)I"⟩
abbrev cX9_lostAtWells : ByteArray := prog_1_method_34_code
def yX9_lostAtWells : MethodName := ⟨RX9, "lostAtWells", "()I"⟩
abbrev cX9_bare : ByteArray := prog_1_method_35_code
def yX9_bare : MethodName := ⟨RX9, "bare", "()I"⟩
abbrev cX9_lies : ByteArray := prog_1_method_36_code
def yX9_lies : MethodName := ⟨RX9, "lies", "(I)I"⟩
abbrev cX9_seen : ByteArray := prog_1_method_37_code
def yX9_seen : MethodName := ⟨RX9, "seen", "(IIIZ)I"⟩
abbrev cX9_untell : ByteArray := prog_1_method_38_code
def yX9_untell : MethodName := ⟨RX9, "untell", "(I)Z"⟩
abbrev cX9_later : ByteArray := prog_1_method_39_code
def yX9_later : MethodName := ⟨RX9, "later", "(I)I"⟩
abbrev cX9_ledges : ByteArray := prog_1_method_40_code
def yX9_ledges : MethodName := ⟨RX9, "ledges", "(I)I"⟩
abbrev cX9_ask : ByteArray := prog_1_method_41_code
def yX9_ask : MethodName := ⟨RX9, "ask", "(III)I"⟩
abbrev cX9_image : ByteArray := prog_1_method_42_code
def yX9_image : MethodName := ⟨RX9, "image", "(I)I"⟩
abbrev cX9_back : ByteArray := prog_1_method_43_code
def yX9_back : MethodName := ⟨RX9, "back", "(I)I"⟩
abbrev cX9_about : ByteArray := prog_1_method_44_code
def yX9_about : MethodName := ⟨RX9, "about", "(I)I"⟩
abbrev cX9_aboutBooks : ByteArray := prog_1_method_45_code
def yX9_aboutBooks : MethodName := ⟨RX9, "aboutBooks", "(I)I"⟩
abbrev cX9_lay : ByteArray := prog_1_method_46_code
def yX9_lay : MethodName := ⟨RX9, "lay", "([I)V"⟩
abbrev cX9_isAhead : ByteArray := prog_1_method_47_code
def yX9_isAhead : MethodName := ⟨RX9, "isAhead", "(I)Z"⟩
abbrev cX9_isTrick : ByteArray := prog_1_method_48_code
def yX9_isTrick : MethodName := ⟨RX9, "isTrick", "(II)Z"⟩
abbrev cX9_countOrSet : ByteArray := prog_1_method_49_code
def yX9_countOrSet : MethodName := ⟨RX9, "countOrSet", "(II)I"⟩
def RX10 : String := "GoatMatchesModel"
def TX10 : u_T := fun k => match k with
  | 0 => ("GoatMatchesModel", "tape", "[I", true)
  | 1 => ("GoatMatchesModel", "taped", "I", false)
  | 2 => ("GoatMatchesModel", "fault", "I", false)
  | 3 => ("GoatMatchesModel", "faultPlace", "I", false)
  | 4 => ("GoatMatchesModel", "at", "I", false)
  | 5 => ("GoatMatchesModel", "size", "I", false)
  | 6 => ("GoatMatchesModel", "sort", "I", false)
  | 7 => ("GoatMatchesModel", "place", "I", false)
  | 8 => ("GoatMatchesModel", "number", "I", false)
  | 9 => ("GoatMatchesModel", "word", "J", false)
  | 10 => ("GoatMatchesModel", "nName", "[J", true)
  | 11 => ("GoatMatchesModel", "nStep", "[I", true)
  | 12 => ("GoatMatchesModel", "nArg", "[I", true)
  | 13 => ("GoatMatchesModel", "step", "[I", true)
  | 14 => ("GoatMatchesModel", "arg", "[I", true)
  | 15 => ("GoatMatchesModel", "open", "[I", true)
  | 16 => ("GoatMatchesModel", "values", "[I", true)
  | 17 => ("GoatMatchesModel", "nSteps", "I", false)
  | 18 => ("GoatMatchesModel", "steps", "I", false)
  | 19 => ("GoatMatchesModel", "opens", "I", false)
  | 20 => ("GoatMatchesModel", "nUnits", "I", false)
  | 21 => ("GoatMatchesModel", "units", "I", false)
  | 22 => ("GoatMatchesModel", "ownUnits", "I", false)
  | 23 => ("GoatMatchesModel", "deep", "I", false)
  | 24 => ("GoatMatchesModel", "asks", "[I", true)
  | 25 => ("GoatMatchesModel", "nGrass", "[I", true)
  | 26 => ("GoatMatchesModel", "nSide", "[I", true)
  | 27 => ("GoatMatchesModel", "nHome", "[I", true)
  | 28 => ("GoatMatchesModel", "nSize", "[I", true)
  | 29 => ("GoatMatchesModel", "nWant", "[I", true)
  | 30 => ("GoatMatchesModel", "nFeud", "[I", true)
  | 31 => ("GoatMatchesModel", "side", "[I", true)
  | 32 => ("GoatMatchesModel", "home", "[I", true)
  | 33 => ("GoatMatchesModel", "sizeOf", "[I", true)
  | 34 => ("GoatMatchesModel", "want", "[I", true)
  | 35 => ("GoatMatchesModel", "feud", "[I", true)
  | 36 => ("GoatMatchesModel", "nColumns", "I", false)
  | 37 => ("GoatMatchesModel", "nRows", "I", false)
  | 38 => ("GoatMatchesModel", "nGreen", "I", false)
  | 39 => ("GoatMatchesModel", "nGrasses", "I", false)
  | 40 => ("GoatMatchesModel", "nFlocks", "I", false)
  | 41 => ("GoatMatchesModel", "nFeuds", "I", false)
  | 42 => ("GoatMatchesModel", "nRain", "I", false)
  | 43 => ("GoatMatchesModel", "nRainOf", "I", false)
  | 44 => ("GoatMatchesModel", "nEvenings", "I", false)
  | 45 => ("GoatMatchesModel", "nDraw", "I", false)
  | 46 => ("GoatMatchesModel", "columns", "I", false)
  | 47 => ("GoatMatchesModel", "rows", "I", false)
  | 48 => ("GoatMatchesModel", "flocks", "I", false)
  | 49 => ("GoatMatchesModel", "feuds", "I", false)
  | 50 => ("GoatMatchesModel", "rain", "I", false)
  | 51 => ("GoatMatchesModel", "rainOf", "I", false)
  | 52 => ("GoatMatchesModel", "evenings", "I", false)
  | 53 => ("GoatMatchesModel", "nHasLine", "Z", false)
  | 54 => ("GoatMatchesModel", "nHasGreen", "Z", false)
  | 55 => ("GoatMatchesModel", "nHasPull", "Z", false)
  | 56 => ("GoatMatchesModel", "nHasRain", "Z", false)
  | 57 => ("GoatMatchesModel", "nHasEvenings", "Z", false)
  | 58 => ("GoatMatchesModel", "nHasDraw", "Z", false)
  | 59 => ("GoatMatchesModel", "hasPull", "Z", false)
  | 60 => ("GoatMatchesModel", "now", "[I", true)
  | 61 => ("GoatMatchesModel", "air", "[I", true)
  | 62 => ("GoatMatchesModel", "goal", "[I", true)
  | 63 => ("GoatMatchesModel", "were", "[I", true)
  | 64 => ("GoatMatchesModel", "acts", "I", false)
  | 65 => ("GoatMatchesModel", "undone", "I", false)
  | 66 => ("GoatMatchesModel", "with", "[I", true)
  | 67 => ("GoatMatchesModel", "lies", "[I", true)
  | 68 => ("GoatMatchesModel", "lain", "I", false)
  | 69 => ("GoatMatchesModel", "order", "[I", true)
  | 70 => ("GoatMatchesModel", "seenDays", "[I", true)
  | 71 => ("GoatMatchesModel", "seenFlock", "[I", true)
  | 72 => ("GoatMatchesModel", "seenCell", "[I", true)
  | 73 => ("GoatMatchesModel", "seenTold", "[I", true)
  | 74 => ("GoatMatchesModel", "seenUntold", "[I", true)
  | 75 => ("GoatMatchesModel", "seenIs", "[Z", true)
  | 76 => ("GoatMatchesModel", "seens", "I", false)
  | 77 => ("GoatMatchesModel", "time", "I", false)
  | 78 => ("GoatMatchesModel", "tally", "[I", true)
  | 79 => ("GoatMatchesModel", "hasBox", "[Z", true)
  | _ => ("GoatMatchesModel", "boxes", "[I", true)
def tyX10 : Nat → FieldType := fun k => match k with
  | 0 => .array .int
  | 1 => .int
  | 2 => .int
  | 3 => .int
  | 4 => .int
  | 5 => .int
  | 6 => .int
  | 7 => .int
  | 8 => .int
  | 9 => .long
  | 10 => .array .long
  | 11 => .array .int
  | 12 => .array .int
  | 13 => .array .int
  | 14 => .array .int
  | 15 => .array .int
  | 16 => .array .int
  | 17 => .int
  | 18 => .int
  | 19 => .int
  | 20 => .int
  | 21 => .int
  | 22 => .int
  | 23 => .int
  | 24 => .array .int
  | 25 => .array .int
  | 26 => .array .int
  | 27 => .array .int
  | 28 => .array .int
  | 29 => .array .int
  | 30 => .array .int
  | 31 => .array .int
  | 32 => .array .int
  | 33 => .array .int
  | 34 => .array .int
  | 35 => .array .int
  | 36 => .int
  | 37 => .int
  | 38 => .int
  | 39 => .int
  | 40 => .int
  | 41 => .int
  | 42 => .int
  | 43 => .int
  | 44 => .int
  | 45 => .int
  | 46 => .int
  | 47 => .int
  | 48 => .int
  | 49 => .int
  | 50 => .int
  | 51 => .int
  | 52 => .int
  | 53 => .boolean
  | 54 => .boolean
  | 55 => .boolean
  | 56 => .boolean
  | 57 => .boolean
  | 58 => .boolean
  | 59 => .boolean
  | 60 => .array .int
  | 61 => .array .int
  | 62 => .array .int
  | 63 => .array .int
  | 64 => .int
  | 65 => .int
  | 66 => .array .int
  | 67 => .array .int
  | 68 => .int
  | 69 => .array .int
  | 70 => .array .int
  | 71 => .array .int
  | 72 => .array .int
  | 73 => .array .int
  | 74 => .array .int
  | 75 => .array .boolean
  | 76 => .int
  | 77 => .int
  | 78 => .array .int
  | 79 => .array .boolean
  | _ => .array .int
abbrev wsX100 : List Cond := u_ws RX10 TX10 81
theorem nmX10 : ∀ a, a < 81 → ∀ b, b < 81 → a ≠ b → (TX10 a).2.1 ≠ (TX10 b).2.1 := by decide +kernel
theorem tyX10_ok : ∀ k, k < 81 → parseFieldDescriptor (TX10 k).2.2.1 = some (tyX10 k) := by decide +kernel
abbrev cX10_init : ByteArray := prog_12_method_1_code
def yX10_init : MethodName := ⟨RX10, "<init>", "()V"⟩
abbrev cX10_feed : ByteArray := prog_12_method_2_code
def yX10_feed : MethodName := ⟨RX10, "feed", "(IIIII)I"⟩
abbrev cX10_four : ByteArray := prog_12_method_3_code
def yX10_four : MethodName := ⟨RX10, "four", "(I)V"⟩
abbrev cX10_end : ByteArray := prog_12_method_4_code
def yX10_end : MethodName := ⟨RX10, "end", "(I)I"⟩
abbrev cX10_here : ByteArray := prog_12_method_5_code
def yX10_here : MethodName := ⟨RX10, "here", "(I)I"⟩
abbrev cX10_isLetter : ByteArray := prog_12_method_6_code
def yX10_isLetter : MethodName := ⟨RX10, "isLetter", "(I)Z"⟩
abbrev cX10_isDigit : ByteArray := prog_12_method_7_code
def yX10_isDigit : MethodName := ⟨RX10, "isDigit", "(I)Z"⟩
abbrev cX10_isSign : ByteArray := prog_12_method_8_code
def yX10_isSign : MethodName := ⟨RX10, "isSign", "(I)Z"⟩
abbrev cX10_token : ByteArray := prog_12_method_9_code
def yX10_token : MethodName := ⟨RX10, "token", "()V"⟩
abbrev cX10_wrong : ByteArray := prog_12_method_10_code
def yX10_wrong : MethodName := ⟨RX10, "wrong", "(I)V"⟩
abbrev cX10_isWord : ByteArray := prog_12_method_11_code
def yX10_isWord : MethodName := ⟨RX10, "isWord", "(J)Z"⟩
abbrev cX10_isOwn : ByteArray := prog_12_method_12_code
def yX10_isOwn : MethodName := ⟨RX10, "isOwn", "()Z"⟩
abbrev cX10_isName : ByteArray := prog_12_method_13_code
def yX10_isName : MethodName := ⟨RX10, "isName", "()Z"⟩
abbrev cX10_want : ByteArray := prog_12_method_14_code
def yX10_want : MethodName := ⟨RX10, "want", "(J)V"⟩
abbrev cX10_toldNumber : ByteArray := prog_12_method_15_code
def yX10_toldNumber : MethodName := ⟨RX10, "toldNumber", "(II)I"⟩
abbrev cX10_told : ByteArray := prog_12_method_16_code
def yX10_told : MethodName := ⟨RX10, "told", "(JII)I"⟩
abbrev cX10_find : ByteArray := prog_12_method_17_code
def yX10_find : MethodName := ⟨RX10, "find", "()I"⟩
abbrev cX10_oldFlock : ByteArray := prog_12_method_18_code
def yX10_oldFlock : MethodName := ⟨RX10, "oldFlock", "()I"⟩
abbrev cX10_add : ByteArray := prog_12_method_19_code
def yX10_add : MethodName := ⟨RX10, "add", "(II)V"⟩
abbrev cX10_tight : ByteArray := prog_12_method_20_code
def yX10_tight : MethodName := ⟨RX10, "tight", "(I)I"⟩
abbrev cX10_close : ByteArray := prog_12_method_21_code
def yX10_close : MethodName := ⟨RX10, "close", "(I)V"⟩
abbrev cX10_hasRelation : ByteArray := prog_12_method_22_code
def yX10_hasRelation : MethodName := ⟨RX10, "hasRelation", "()Z"⟩
abbrev cX10_mayNot : ByteArray := prog_12_method_23_code
def yX10_mayNot : MethodName := ⟨RX10, "mayNot", "()Z"⟩
abbrev cX10_asked : ByteArray := prog_12_method_24_code
def yX10_asked : MethodName := ⟨RX10, "asked", "()I"⟩
abbrev cX10_isFull : ByteArray := prog_12_method_25_code
def yX10_isFull : MethodName := ⟨RX10, "isFull", "()Z"⟩
abbrev cX10_countUnit : ByteArray := prog_12_method_26_code
def yX10_countUnit : MethodName := ⟨RX10, "countUnit", "()V"⟩
abbrev cX10_openUp : ByteArray := prog_12_method_27_code
def yX10_openUp : MethodName := ⟨RX10, "openUp", "(I)V"⟩
abbrev cX10_unit : ByteArray := prog_12_method_28_code
def yX10_unit : MethodName := ⟨RX10, "unit", "()V"⟩
abbrev cX10_sign : ByteArray := prog_12_method_29_code
def yX10_sign : MethodName := ⟨RX10, "sign", "()I"⟩
abbrev cX10_hasBracket : ByteArray := prog_12_method_30_code
def yX10_hasBracket : MethodName := ⟨RX10, "hasBracket", "()Z"⟩
abbrev cX10_readPull : ByteArray := prog_12_method_31_code
def yX10_readPull : MethodName := ⟨RX10, "readPull", "()V"⟩
abbrev cX10_truth : ByteArray := prog_12_method_32_code
def yX10_truth : MethodName := ⟨RX10, "truth", "(Z)I"⟩
abbrev cX10_done : ByteArray := prog_12_method_33_code
def yX10_done : MethodName := ⟨RX10, "done", "(III)I"⟩
abbrev cX10_worked : ByteArray := prog_12_method_34_code
def yX10_worked : MethodName := ⟨RX10, "worked", "()I"⟩
abbrev cX10_readGorge : ByteArray := prog_12_method_35_code
def yX10_readGorge : MethodName := ⟨RX10, "readGorge", "()V"⟩
abbrev cX10_readGrass : ByteArray := prog_12_method_36_code
def yX10_readGrass : MethodName := ⟨RX10, "readGrass", "()V"⟩
abbrev cX10_readFlock : ByteArray := prog_12_method_37_code
def yX10_readFlock : MethodName := ⟨RX10, "readFlock", "()V"⟩
abbrev cX10_readWants : ByteArray := prog_12_method_38_code
def yX10_readWants : MethodName := ⟨RX10, "readWants", "()V"⟩
abbrev cX10_readFeud : ByteArray := prog_12_method_39_code
def yX10_readFeud : MethodName := ⟨RX10, "readFeud", "()V"⟩
abbrev cX10_readLine : ByteArray := prog_12_method_40_code
def yX10_readLine : MethodName := ⟨RX10, "readLine", "()V"⟩
abbrev cX10_readAll : ByteArray := prog_12_method_41_code
def yX10_readAll : MethodName := ⟨RX10, "readAll", "()V"⟩
abbrev cX10_gorge : ByteArray := prog_12_method_42_code
def yX10_gorge : MethodName := ⟨RX10, "gorge", "()I"⟩
abbrev cX10_fault : ByteArray := prog_12_method_43_code
def yX10_fault : MethodName := ⟨RX10, "fault", "(I)I"⟩
abbrev cX10_isIn : ByteArray := prog_12_method_44_code
def yX10_isIn : MethodName := ⟨RX10, "isIn", "(III)Z"⟩
abbrev cX10_all : ByteArray := prog_12_method_45_code
def yX10_all : MethodName := ⟨RX10, "all", "()I"⟩
abbrev cX10_isFlock : ByteArray := prog_12_method_46_code
def yX10_isFlock : MethodName := ⟨RX10, "isFlock", "(I)Z"⟩
abbrev cX10_isCell : ByteArray := prog_12_method_47_code
def yX10_isCell : MethodName := ⟨RX10, "isCell", "(I)Z"⟩
abbrev cX10_load : ByteArray := prog_12_method_48_code
def yX10_load : MethodName := ⟨RX10, "load", "()V"⟩
abbrev cX10_apart : ByteArray := prog_12_method_49_code
def yX10_apart : MethodName := ⟨RX10, "apart", "(II)I"⟩
abbrev cX10_farOf : ByteArray := prog_12_method_50_code
def yX10_farOf : MethodName := ⟨RX10, "farOf", "(II)I"⟩
abbrev cX10_othersIn : ByteArray := prog_12_method_51_code
def yX10_othersIn : MethodName := ⟨RX10, "othersIn", "(II)I"⟩
abbrev cX10_pullOf : ByteArray := prog_12_method_52_code
def yX10_pullOf : MethodName := ⟨RX10, "pullOf", "(II)I"⟩
abbrev cX10_decide : ByteArray := prog_12_method_53_code
def yX10_decide : MethodName := ⟨RX10, "decide", "(I)V"⟩
abbrev cX10_canMix : ByteArray := prog_12_method_54_code
def yX10_canMix : MethodName := ⟨RX10, "canMix", "(II)Z"⟩
abbrev cX10_evening : ByteArray := prog_12_method_55_code
def yX10_evening : MethodName := ⟨RX10, "evening", "()V"⟩
abbrev cX10_match : ByteArray := prog_12_method_56_code
def yX10_match : MethodName := ⟨RX10, "match", "(I)I"⟩
abbrev cX10_rains : ByteArray := prog_12_method_57_code
def yX10_rains : MethodName := ⟨RX10, "rains", "()V"⟩
abbrev cX10_goDay : ByteArray := prog_12_method_58_code
def yX10_goDay : MethodName := ⟨RX10, "goDay", "(I)I"⟩
abbrev cX10_flock : ByteArray := prog_12_method_59_code
def yX10_flock : MethodName := ⟨RX10, "flock", "(II)I"⟩
abbrev cX10_flocksIn : ByteArray := prog_12_method_60_code
def yX10_flocksIn : MethodName := ⟨RX10, "flocksIn", "(I)I"⟩
abbrev cX10_ground : ByteArray := prog_12_method_61_code
def yX10_ground : MethodName := ⟨RX10, "ground", "(II)I"⟩
abbrev cX10_pull : ByteArray := prog_12_method_62_code
def yX10_pull : MethodName := ⟨RX10, "pull", "(II)I"⟩
abbrev cX10_areMixing : ByteArray := prog_12_method_63_code
def yX10_areMixing : MethodName := ⟨RX10, "areMixing", "(II)Z"⟩
abbrev cX10_mixed : ByteArray := prog_12_method_64_code
def yX10_mixed : MethodName := ⟨RX10, "mixed", "(II)I"⟩
abbrev cX10_wants : ByteArray := prog_12_method_65_code
def yX10_wants : MethodName := ⟨RX10, "wants", "(II)I"⟩
abbrev cX10_allGrass : ByteArray := prog_12_method_66_code
def yX10_allGrass : MethodName := ⟨RX10, "allGrass", "()I"⟩
abbrev cX10_grass : ByteArray := prog_12_method_67_code
def yX10_grass : MethodName := ⟨RX10, "grass", "()I"⟩
abbrev cX10_allMatched : ByteArray := prog_12_method_68_code
def yX10_allMatched : MethodName := ⟨RX10, "allMatched", "()I"⟩
abbrev cX10_matched : ByteArray := prog_12_method_69_code
def yX10_matched : MethodName := ⟨RX10, "matched", "()I"⟩
abbrev cX10_act : ByteArray := prog_12_method_70_code
def yX10_act : MethodName := ⟨RX10, "act", "()V"⟩
abbrev cX10_exchange : ByteArray := prog_12_method_71_code
def yX10_exchange : MethodName := ⟨RX10, "exchange", "(I)V"⟩
abbrev cX10_salt : ByteArray := prog_12_method_72_code
def yX10_salt : MethodName := ⟨RX10, "salt", "(I)I"⟩
abbrev cX10_pen : ByteArray := prog_12_method_73_code
def yX10_pen : MethodName := ⟨RX10, "pen", "(I)I"⟩
abbrev cX10_drive : ByteArray := prog_12_method_74_code
def yX10_drive : MethodName := ⟨RX10, "drive", "(II)I"⟩
abbrev cX10_breaks : ByteArray := prog_12_method_75_code
def yX10_breaks : MethodName := ⟨RX10, "breaks", "(I)I"⟩
abbrev cX10_day : ByteArray := prog_12_method_76_code
def yX10_day : MethodName := ⟨RX10, "day", "()I"⟩
abbrev cX10_undo : ByteArray := prog_12_method_77_code
def yX10_undo : MethodName := ⟨RX10, "undo", "()Z"⟩
abbrev cX10_redo : ByteArray := prog_12_method_78_code
def yX10_redo : MethodName := ⟨RX10, "redo", "()Z"⟩
abbrev cX10_goFar : ByteArray := prog_12_method_79_code
def yX10_goFar : MethodName := ⟨RX10, "goFar", "(II)V"⟩
abbrev cX10_will : ByteArray := prog_12_method_80_code
def yX10_will : MethodName := ⟨RX10, "will", "(II)I"⟩
abbrev cX10_mixedMore : ByteArray := prog_12_method_81_code
def yX10_mixedMore : MethodName := ⟨RX10, "mixedMore", "(II)I"⟩
abbrev cX10_mixes : ByteArray := prog_12_method_82_code
def yX10_mixes : MethodName := ⟨RX10, "mixes", "(III)I"⟩
abbrev cX10_weds : ByteArray := prog_12_method_83_code
def yX10_weds : MethodName := ⟨RX10, "weds", "(I)I"⟩
abbrev cX10_bare : ByteArray := prog_12_method_84_code
def yX10_bare : MethodName := ⟨RX10, "bare", "()I"⟩
abbrev cX10_law : ByteArray := prog_12_method_85_code
def yX10_law : MethodName := ⟨RX10, "law", "(I)I"⟩
abbrev cX10_isTrick : ByteArray := prog_12_method_86_code
def yX10_isTrick : MethodName := ⟨RX10, "isTrick", "(IIIIIII)Z"⟩
abbrev cX10_isFree : ByteArray := prog_12_method_87_code
def yX10_isFree : MethodName := ⟨RX10, "isFree", "(I)Z"⟩
abbrev cX10_trickOf : ByteArray := prog_12_method_88_code
def yX10_trickOf : MethodName := ⟨RX10, "trickOf", "(IIIII)I"⟩
abbrev cX10_trick : ByteArray := prog_12_method_89_code
def yX10_trick : MethodName := ⟨RX10, "trick", "(IIIII)I"⟩
abbrev cX10_members : ByteArray := prog_12_method_90_code
def yX10_members : MethodName := ⟨RX10, "members", "(I)I"⟩
abbrev cX10_isHeld : ByteArray := prog_12_method_91_code
def yX10_isHeld : MethodName := ⟨RX10, "isHeld", "(IIII)Z"⟩
abbrev cX10_hold : ByteArray := prog_12_method_92_code
def yX10_hold : MethodName := ⟨RX10, "hold", "(IIII)I"⟩
abbrev cX10_mixedFrom : ByteArray := prog_12_method_93_code
def yX10_mixedFrom : MethodName := ⟨RX10, "mixedFrom", "(IIII)I"⟩
abbrev cX10_lead : ByteArray := prog_12_method_94_code
def yX10_lead : MethodName := ⟨RX10, "lead", "(IIII)I"⟩
abbrev cX10_bachelors : ByteArray := prog_12_method_95_code
def yX10_bachelors : MethodName := ⟨RX10, "bachelors", "(I)I"⟩
abbrev cX10_rowsOf : ByteArray := prog_12_method_96_code
def yX10_rowsOf : MethodName := ⟨RX10, "rowsOf", "()I"⟩
abbrev cX10_couldBe : ByteArray := prog_12_method_97_code
def yX10_couldBe : MethodName := ⟨RX10, "couldBe", "(II)Z"⟩
abbrev cX10_layPairs : ByteArray := prog_12_method_98_code
def yX10_layPairs : MethodName := ⟨RX10, "layPairs", "(I)Z"⟩
abbrev cX10_has : ByteArray := prog_12_method_99_code
def yX10_has : MethodName := ⟨RX10, "has", "(I)I"⟩
abbrev cX10_isCalm : ByteArray := prog_12_method_100_code
def yX10_isCalm : MethodName := ⟨RX10, "isCalm", "()Z"⟩
abbrev cX10_calm : ByteArray := prog_12_method_101_code
def yX10_calm : MethodName := ⟨RX10, "calm", "()I"⟩
abbrev cX10_reach : ByteArray := prog_12_method_102_code
def yX10_reach : MethodName := ⟨RX10, "reach", "(I)I"⟩
abbrev cX10_allHave : ByteArray := prog_12_method_103_code
def yX10_allHave : MethodName := ⟨RX10, "allHave", "()I"⟩
abbrev cX10_dear : ByteArray := prog_12_method_104_code
def yX10_dear : MethodName := ⟨RX10, "dear", "()I"⟩
abbrev cX10_nextOrder : ByteArray := prog_12_method_105_code
def yX10_nextOrder : MethodName := ⟨RX10, "nextOrder", "()Z"⟩
abbrev cX10_exchangeOrder : ByteArray := prog_12_method_106_code
def yX10_exchangeOrder : MethodName := ⟨RX10, "exchangeOrder", "(II)V"⟩
abbrev cX10_lossOf : ByteArray := prog_12_method_107_code
def yX10_lossOf : MethodName := ⟨RX10, "lossOf", "()I"⟩
abbrev cX10_wells : ByteArray := prog_12_method_108_code
def yX10_wells : MethodName := ⟨RX10, "wells", "()I"⟩
abbrev cX10_lies : ByteArray := prog_12_method_109_code
def yX10_lies : MethodName := ⟨RX10, "lies", "(I)I"⟩
abbrev cX10_seen : ByteArray := prog_12_method_110_code
def yX10_seen : MethodName := ⟨RX10, "seen", "(IIIZ)I"⟩
abbrev cX10_untell : ByteArray := prog_12_method_111_code
def yX10_untell : MethodName := ⟨RX10, "untell", "(I)Z"⟩
abbrev cX10_later : ByteArray := prog_12_method_112_code
def yX10_later : MethodName := ⟨RX10, "later", "(I)I"⟩
abbrev cX10_isSeenSo : ByteArray := prog_12_method_113_code
def yX10_isSeenSo : MethodName := ⟨RX10, "isSeenSo", "(II)Z"⟩
abbrev cX10_isLedge : ByteArray := prog_12_method_114_code
def yX10_isLedge : MethodName := ⟨RX10, "isLedge", "(II)Z"⟩
abbrev cX10_ledges : ByteArray := prog_12_method_115_code
def yX10_ledges : MethodName := ⟨RX10, "ledges", "(I)I"⟩
abbrev cX10_layTally : ByteArray := prog_12_method_116_code
def yX10_layTally : MethodName := ⟨RX10, "layTally", "(II)V"⟩
abbrev cX10_mostOf : ByteArray := prog_12_method_117_code
def yX10_mostOf : MethodName := ⟨RX10, "mostOf", "(I)I"⟩
abbrev cX10_ask : ByteArray := prog_12_method_118_code
def yX10_ask : MethodName := ⟨RX10, "ask", "(III)I"⟩
abbrev cX10_isBox : ByteArray := prog_12_method_119_code
def yX10_isBox : MethodName := ⟨RX10, "isBox", "(I)Z"⟩
abbrev cX10_image : ByteArray := prog_12_method_120_code
def yX10_image : MethodName := ⟨RX10, "image", "(I)I"⟩
abbrev cX10_back : ByteArray := prog_12_method_121_code
def yX10_back : MethodName := ⟨RX10, "back", "(I)I"⟩
abbrev cX10_pens : ByteArray := prog_12_method_122_code
def yX10_pens : MethodName := ⟨RX10, "pens", "()I"⟩
abbrev cX10_about : ByteArray := prog_12_method_123_code
def yX10_about : MethodName := ⟨RX10, "about", "(I)I"⟩
def RJ11 : String := "java/lang/Character"
def TJ11 : u_T := fun k => match k with
  | _ => ("", "", "", false)
def tyJ11 : Nat → FieldType := fun k => match k with
  | _ => .int
theorem nmJ11 : ∀ a, a < 0 → ∀ b, b < 0 → a ≠ b → (TJ11 a).2.1 ≠ (TJ11 b).2.1 := by decide +kernel
theorem tyJ11_ok : ∀ k, k < 0 → parseFieldDescriptor (TJ11 k).2.2.1 = some (tyJ11 k) := by decide +kernel
abbrev cJ11_isValidCodePoint_9a6ad : ByteArray := prog_13_method_11_code
def yJ11_isValidCodePoint_9a6ad : MethodName := ⟨RJ11, "isValidCodePoint", "(I)Z"⟩
abbrev cJ11_highSurrogate_5068e : ByteArray := prog_13_method_28_code
def yJ11_highSurrogate_5068e : MethodName := ⟨RJ11, "highSurrogate", "(I)C"⟩
abbrev cJ11_lowSurrogate_5068e : ByteArray := prog_13_method_29_code
def yJ11_lowSurrogate_5068e : MethodName := ⟨RJ11, "lowSurrogate", "(I)C"⟩
def RJ6 : String := "java/lang/Integer"
def TJ6 : u_T := fun k => match k with
  | _ => ("", "", "", false)
def tyJ6 : Nat → FieldType := fun k => match k with
  | _ => .int
theorem nmJ6 : ∀ a, a < 0 → ∀ b, b < 0 → a ≠ b → (TJ6 a).2.1 ≠ (TJ6 b).2.1 := by decide +kernel
theorem tyJ6_ok : ∀ k, k < 0 → parseFieldDescriptor (TJ6 k).2.2.1 = some (tyJ6 k) := by decide +kernel
abbrev cJ6_bitCount_0f7a4 : ByteArray := prog_14_method_49_code
def yJ6_bitCount_0f7a4 : MethodName := ⟨RJ6, "bitCount", "(I)I"⟩
def RJ9 : String := "java/lang/Math"
def TJ9 : u_T := fun k => match k with
  | _ => ("", "", "", false)
def tyJ9 : Nat → FieldType := fun k => match k with
  | _ => .int
theorem nmJ9 : ∀ a, a < 0 → ∀ b, b < 0 → a ≠ b → (TJ9 a).2.1 ≠ (TJ9 b).2.1 := by decide +kernel
theorem tyJ9_ok : ∀ k, k < 0 → parseFieldDescriptor (TJ9 k).2.2.1 = some (tyJ9 k) := by decide +kernel
abbrev cJ9_abs_0f7a4 : ByteArray := prog_15_method_59_code
def yJ9_abs_0f7a4 : MethodName := ⟨RJ9, "abs", "(I)I"⟩
abbrev cJ9_max_7cf53 : ByteArray := prog_15_method_65_code
def yJ9_max_7cf53 : MethodName := ⟨RJ9, "max", "(II)I"⟩
abbrev cJ9_min_7cf53 : ByteArray := prog_15_method_69_code
def yJ9_min_7cf53 : MethodName := ⟨RJ9, "min", "(II)I"⟩
def RJ0 : String := "java/lang/String"
def TJ0 : u_T := fun k => match k with
  | _ => ("", "", "", false)
def tyJ0 : Nat → FieldType := fun k => match k with
  | _ => .int
theorem nmJ0 : ∀ a, a < 0 → ∀ b, b < 0 → a ≠ b → (TJ0 a).2.1 ≠ (TJ0 b).2.1 := by decide +kernel
theorem tyJ0_ok : ∀ k, k < 0 → parseFieldDescriptor (TJ0 k).2.2.1 = some (tyJ0 k) := by decide +kernel
abbrev cJ0_length_8abf5 : ByteArray := prog_16_method_54_code
def yJ0_length_8abf5 : MethodName := ⟨RJ0, "length", "()I"⟩
abbrev cJ0_charAt_5068e : ByteArray := prog_16_method_56_code
def yJ0_charAt_5068e : MethodName := ⟨RJ0, "charAt", "(I)C"⟩
abbrev cJ0_indexOf_0f7a4 : ByteArray := prog_16_method_79_code
def yJ0_indexOf_0f7a4 : MethodName := ⟨RJ0, "indexOf", "(I)I"⟩
abbrev cJ0_indexOf_7cf53 : ByteArray := prog_16_method_80_code
def yJ0_indexOf_7cf53 : MethodName := ⟨RJ0, "indexOf", "(II)I"⟩
abbrev cJ0_coder_7d493 : ByteArray := prog_16_method_152_code
def yJ0_coder_7d493 : MethodName := ⟨RJ0, "coder", "()B"⟩
abbrev cJ0_isLatin1_aae02 : ByteArray := prog_16_method_154_code
def yJ0_isLatin1_aae02 : MethodName := ⟨RJ0, "isLatin1", "()Z"⟩
abbrev cJ0_checkIndex_df160 : ByteArray := prog_16_method_155_code
def yJ0_checkIndex_df160 : MethodName := ⟨RJ0, "checkIndex", "(II)V"⟩
abbrev cJ0_checkBoundsBeginEnd_23922 : ByteArray := prog_16_method_158_code
def yJ0_checkBoundsBeginEnd_23922 : MethodName := ⟨RJ0, "checkBoundsBeginEnd", "(III)V"⟩
def RJ1 : String := "java/lang/StringLatin1"
def TJ1 : u_T := fun k => match k with
  | _ => ("", "", "", false)
def tyJ1 : Nat → FieldType := fun k => match k with
  | _ => .int
theorem nmJ1 : ∀ a, a < 0 → ∀ b, b < 0 → a ≠ b → (TJ1 a).2.1 ≠ (TJ1 b).2.1 := by decide +kernel
theorem tyJ1_ok : ∀ k, k < 0 → parseFieldDescriptor (TJ1 k).2.2.1 = some (tyJ1 k) := by decide +kernel
abbrev cJ1_charAt_3b067 : ByteArray := prog_17_method_2_code
def yJ1_charAt_3b067 : MethodName := ⟨RJ1, "charAt", "([BI)C"⟩
abbrev cJ1_canEncode_9a6ad : ByteArray := prog_17_method_4_code
def yJ1_canEncode_9a6ad : MethodName := ⟨RJ1, "canEncode", "(I)Z"⟩
abbrev cJ1_indexOf_4cfef : ByteArray := prog_17_method_22_code
def yJ1_indexOf_4cfef : MethodName := ⟨RJ1, "indexOf", "([BIII)I"⟩
abbrev cJ1_indexOfChar_4cfef : ByteArray := prog_17_method_23_code
def yJ1_indexOfChar_4cfef : MethodName := ⟨RJ1, "indexOfChar", "([BIII)I"⟩
def RJ2 : String := "java/lang/StringUTF16"
def TJ2 : u_T := fun k => match k with
  | _ => ("", "", "", false)
def tyJ2 : Nat → FieldType := fun k => match k with
  | _ => .int
theorem nmJ2 : ∀ a, a < 0 → ∀ b, b < 0 → a ≠ b → (TJ2 a).2.1 ≠ (TJ2 b).2.1 := by decide +kernel
theorem tyJ2_ok : ∀ k, k < 0 → parseFieldDescriptor (TJ2 k).2.2.1 = some (tyJ2 k) := by decide +kernel
abbrev cJ2_getChar_3b067 : ByteArray := prog_18_method_5_code
def yJ2_getChar_3b067 : MethodName := ⟨RJ2, "getChar", "([BI)C"⟩
abbrev cJ2_length_9d52b : ByteArray := prog_18_method_6_code
def yJ2_length_9d52b : MethodName := ⟨RJ2, "length", "([B)I"⟩
abbrev cJ2_indexOf_4cfef : ByteArray := prog_18_method_40_code
def yJ2_indexOf_4cfef : MethodName := ⟨RJ2, "indexOf", "([BIII)I"⟩
abbrev cJ2_indexOfChar_4cfef : ByteArray := prog_18_method_47_code
def yJ2_indexOfChar_4cfef : MethodName := ⟨RJ2, "indexOfChar", "([BIII)I"⟩
abbrev cJ2_indexOfCharUnsafe_4cfef : ByteArray := prog_18_method_48_code
def yJ2_indexOfCharUnsafe_4cfef : MethodName := ⟨RJ2, "indexOfCharUnsafe", "([BIII)I"⟩
abbrev cJ2_indexOfSupplementary_4cfef : ByteArray := prog_18_method_49_code
def yJ2_indexOfSupplementary_4cfef : MethodName := ⟨RJ2, "indexOfSupplementary", "([BIII)I"⟩
abbrev cJ2_charAt_3b067 : ByteArray := prog_18_method_83_code
def yJ2_charAt_3b067 : MethodName := ⟨RJ2, "charAt", "([BI)C"⟩
abbrev cJ2_checkIndex_2214a : ByteArray := prog_18_method_91_code
def yJ2_checkIndex_2214a : MethodName := ⟨RJ2, "checkIndex", "(I[B)V"⟩
abbrev cJ2_checkBoundsBeginEnd_d044e : ByteArray := prog_18_method_93_code
def yJ2_checkBoundsBeginEnd_d044e : MethodName := ⟨RJ2, "checkBoundsBeginEnd", "(II[B)V"⟩
def RJ10 : String := "java/lang/System"
def TJ10 : u_T := fun k => match k with
  | _ => ("", "", "", false)
def tyJ10 : Nat → FieldType := fun k => match k with
  | _ => .int
theorem nmJ10 : ∀ a, a < 0 → ∀ b, b < 0 → a ≠ b → (TJ10 a).2.1 ≠ (TJ10 b).2.1 := by decide +kernel
theorem tyJ10_ok : ∀ k, k < 0 → parseFieldDescriptor (TJ10 k).2.2.1 = some (tyJ10 k) := by decide +kernel
def RJ7 : String := "java/util/Arrays"
def TJ7 : u_T := fun k => match k with
  | _ => ("", "", "", false)
def tyJ7 : Nat → FieldType := fun k => match k with
  | _ => .int
theorem nmJ7 : ∀ a, a < 0 → ∀ b, b < 0 → a ≠ b → (TJ7 a).2.1 ≠ (TJ7 b).2.1 := by decide +kernel
theorem tyJ7_ok : ∀ k, k < 0 → parseFieldDescriptor (TJ7 k).2.2.1 = some (tyJ7 k) := by decide +kernel
abbrev cJ7_fill_53178 : ByteArray := prog_20_method_103_code
def yJ7_fill_53178 : MethodName := ⟨RJ7, "fill", "([II)V"⟩
def RJ3 : String := "jdk/internal/util/Preconditions"
def TJ3 : u_T := fun k => match k with
  | _ => ("", "", "", false)
def tyJ3 : Nat → FieldType := fun k => match k with
  | _ => .int
theorem nmJ3 : ∀ a, a < 0 → ∀ b, b < 0 → a ≠ b → (TJ3 a).2.1 ≠ (TJ3 b).2.1 := by decide +kernel
theorem tyJ3_ok : ∀ k, k < 0 → parseFieldDescriptor (TJ3 k).2.2.1 = some (tyJ3 k) := by decide +kernel
abbrev cJ3_checkIndex_8e157 : ByteArray := prog_21_method_11_code
def yJ3_checkIndex_8e157 : MethodName := ⟨RJ3, "checkIndex", "(IILjava/util/function/BiFunction;)I"⟩
abbrev cJ3_checkFromToIndex_8c36e : ByteArray := prog_21_method_12_code
def yJ3_checkFromToIndex_8c36e : MethodName := ⟨RJ3, "checkFromToIndex", "(IIILjava/util/function/BiFunction;)I"⟩
def RL : String := "GoatMatchesLaw"
abbrev cL_law : ByteArray := code
def yL_law : MethodName := ⟨RL, "law", "([I)Z"⟩
abbrev vwCl : List vw_C := [(RX0, TX0, 9), (RX1, TX1, 20), (RX2, TX2, 8), (RX3, TX3, 7), (RX4, TX4, 3), (RX5, TX5, 7), (RX6, TX6, 8), (RX7, TX7, 8), (RX8, TX8, 5), (RX9, TX9, 14), (RX10, TX10, 81)]
