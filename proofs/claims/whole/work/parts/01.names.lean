-- ===== PART A: goes FIRST, ahead of the names: the tables' words, and 'selects' of the private methods out of them =====
/-- a private method of a class that the tables say can be made, by its rows of tables_1 -/
def lw_okq (q : MethodName × Nat) : Prop := (q.1.cls ≠ "java/lang/invoke/MethodHandle" ∧ q.1.cls ≠ "java/lang/invoke/VarHandle") ∧ Cond.instantiable q.1.cls q.2 ∈ tables_1 ∧ Cond.privateMethod q.1 ∈ tables_1 ∧ Cond.instanceMethod q.1 ∈ tables_1
theorem lw_p0 : lw_okq (⟨"PortsBench$Acts", "loadBox", "([LPortsBench$Ratio;IIZ)V"⟩, 16) := ⟨⟨by decide +kernel, by decide +kernel⟩, List.mem_of_getElem? (i := 58) (by decide +kernel), List.mem_of_getElem? (i := 407) (by decide +kernel), List.mem_of_getElem? (i := 408) (by decide +kernel)⟩
theorem lw_p1 : lw_okq (⟨"PortsBench$Lowest", "share", "(LPortsBench$Whole;I)Z"⟩, 8) := ⟨⟨by decide +kernel, by decide +kernel⟩, List.mem_of_getElem? (i := 109) (by decide +kernel), List.mem_of_getElem? (i := 498) (by decide +kernel), List.mem_of_getElem? (i := 499) (by decide +kernel)⟩
theorem lw_p2 : lw_okq (⟨"PortsBench$Lowest", "swap", "()V"⟩, 8) := ⟨⟨by decide +kernel, by decide +kernel⟩, List.mem_of_getElem? (i := 109) (by decide +kernel), List.mem_of_getElem? (i := 503) (by decide +kernel), List.mem_of_getElem? (i := 504) (by decide +kernel)⟩
theorem lw_p3 : lw_okq (⟨"PortsBench$Lowest", "shareByHeads", "()Z"⟩, 8) := ⟨⟨by decide +kernel, by decide +kernel⟩, List.mem_of_getElem? (i := 109) (by decide +kernel), List.mem_of_getElem? (i := 517) (by decide +kernel), List.mem_of_getElem? (i := 518) (by decide +kernel)⟩
theorem lw_p4 : lw_okq (⟨"PortsBench$Whole", "divideShort", "(I)J"⟩, 3) := ⟨⟨by decide +kernel, by decide +kernel⟩, List.mem_of_getElem? (i := 64) (by decide +kernel), List.mem_of_getElem? (i := 541) (by decide +kernel), List.mem_of_getElem? (i := 542) (by decide +kernel)⟩
theorem lw_p5 : lw_okq (⟨"PortsBench$Whole", "multiplyShort", "(II)V"⟩, 3) := ⟨⟨by decide +kernel, by decide +kernel⟩, List.mem_of_getElem? (i := 64) (by decide +kernel), List.mem_of_getElem? (i := 547) (by decide +kernel), List.mem_of_getElem? (i := 548) (by decide +kernel)⟩
theorem lw_p6 : lw_okq (⟨"PortsBench$Whole", "divideLimb", "(LPortsBench$Whole;II)I"⟩, 3) := ⟨⟨by decide +kernel, by decide +kernel⟩, List.mem_of_getElem? (i := 64) (by decide +kernel), List.mem_of_getElem? (i := 551) (by decide +kernel), List.mem_of_getElem? (i := 552) (by decide +kernel)⟩
theorem lw_p7 : lw_okq (⟨"PortsBench$Whole", "addShifted", "(LPortsBench$Whole;IIJ)J"⟩, 3) := ⟨⟨by decide +kernel, by decide +kernel⟩, List.mem_of_getElem? (i := 64) (by decide +kernel), List.mem_of_getElem? (i := 555) (by decide +kernel), List.mem_of_getElem? (i := 556) (by decide +kernel)⟩
theorem lw_p8 : lw_okq (⟨"PortsBench$Lowest", "writePart", "(LPortsBench$Whole;I)Z"⟩, 8) := ⟨⟨by decide +kernel, by decide +kernel⟩, List.mem_of_getElem? (i := 109) (by decide +kernel), List.mem_of_getElem? (i := 559) (by decide +kernel), List.mem_of_getElem? (i := 560) (by decide +kernel)⟩
theorem lw_p9 : lw_okq (⟨"PortsBench", "refuse", "(II)I"⟩, 5) := ⟨⟨by decide +kernel, by decide +kernel⟩, List.mem_of_getElem? (i := 13) (by decide +kernel), List.mem_of_getElem? (i := 564) (by decide +kernel), List.mem_of_getElem? (i := 565) (by decide +kernel)⟩
theorem lw_p10 : lw_okq (⟨"PortsBench", "finish", "(I)I"⟩, 5) := ⟨⟨by decide +kernel, by decide +kernel⟩, List.mem_of_getElem? (i := 13) (by decide +kernel), List.mem_of_getElem? (i := 568) (by decide +kernel), List.mem_of_getElem? (i := 569) (by decide +kernel)⟩
theorem lw_p11 : lw_okq (⟨"PortsBench", "hasThreeOfOnePort", "(I)Z"⟩, 5) := ⟨⟨by decide +kernel, by decide +kernel⟩, List.mem_of_getElem? (i := 13) (by decide +kernel), List.mem_of_getElem? (i := 604) (by decide +kernel), List.mem_of_getElem? (i := 605) (by decide +kernel)⟩
theorem lw_p12 : lw_okq (⟨"PortsBench$Acts", "setDeterminant", "(LPortsBench$Gauss;III)V"⟩, 16) := ⟨⟨by decide +kernel, by decide +kernel⟩, List.mem_of_getElem? (i := 58) (by decide +kernel), List.mem_of_getElem? (i := 613) (by decide +kernel), List.mem_of_getElem? (i := 614) (by decide +kernel)⟩
theorem lw_p13 : lw_okq (⟨"PortsBench", "holds", "(III)Z"⟩, 5) := ⟨⟨by decide +kernel, by decide +kernel⟩, List.mem_of_getElem? (i := 13) (by decide +kernel), List.mem_of_getElem? (i := 669) (by decide +kernel), List.mem_of_getElem? (i := 670) (by decide +kernel)⟩
theorem lw_p14 : lw_okq (⟨"PortsBench$Judge", "setSizes", "(LPortsBench$Ratio;LPortsBench$Ratio;)V"⟩, 14) := ⟨⟨by decide +kernel, by decide +kernel⟩, List.mem_of_getElem? (i := 249) (by decide +kernel), List.mem_of_getElem? (i := 682) (by decide +kernel), List.mem_of_getElem? (i := 683) (by decide +kernel)⟩
theorem lw_p15 : lw_okq (⟨"PortsBench$Judge", "setLack", "(LPortsBench$Whole;)V"⟩, 14) := ⟨⟨by decide +kernel, by decide +kernel⟩, List.mem_of_getElem? (i := 249) (by decide +kernel), List.mem_of_getElem? (i := 688) (by decide +kernel), List.mem_of_getElem? (i := 689) (by decide +kernel)⟩
def lw_privs_1 : List (MethodName × Nat) := [(⟨"PortsBench$Acts", "loadBox", "([LPortsBench$Ratio;IIZ)V"⟩, 16), (⟨"PortsBench$Lowest", "share", "(LPortsBench$Whole;I)Z"⟩, 8), (⟨"PortsBench$Lowest", "swap", "()V"⟩, 8), (⟨"PortsBench$Lowest", "shareByHeads", "()Z"⟩, 8), (⟨"PortsBench$Whole", "divideShort", "(I)J"⟩, 3), (⟨"PortsBench$Whole", "multiplyShort", "(II)V"⟩, 3), (⟨"PortsBench$Whole", "divideLimb", "(LPortsBench$Whole;II)I"⟩, 3), (⟨"PortsBench$Whole", "addShifted", "(LPortsBench$Whole;IIJ)J"⟩, 3), (⟨"PortsBench$Lowest", "writePart", "(LPortsBench$Whole;I)Z"⟩, 8), (⟨"PortsBench", "refuse", "(II)I"⟩, 5), (⟨"PortsBench", "finish", "(I)I"⟩, 5), (⟨"PortsBench", "hasThreeOfOnePort", "(I)Z"⟩, 5), (⟨"PortsBench$Acts", "setDeterminant", "(LPortsBench$Gauss;III)V"⟩, 16), (⟨"PortsBench", "holds", "(III)Z"⟩, 5), (⟨"PortsBench$Judge", "setSizes", "(LPortsBench$Ratio;LPortsBench$Ratio;)V"⟩, 14), (⟨"PortsBench$Judge", "setLack", "(LPortsBench$Whole;)V"⟩, 14)]
theorem lw_r1 : ∀ q ∈ lw_privs_1, lw_okq q := List.forall_mem_cons.mpr ⟨lw_p0, List.forall_mem_cons.mpr ⟨lw_p1, List.forall_mem_cons.mpr ⟨lw_p2, List.forall_mem_cons.mpr ⟨lw_p3, List.forall_mem_cons.mpr ⟨lw_p4, List.forall_mem_cons.mpr ⟨lw_p5, List.forall_mem_cons.mpr ⟨lw_p6, List.forall_mem_cons.mpr ⟨lw_p7, List.forall_mem_cons.mpr ⟨lw_p8, List.forall_mem_cons.mpr ⟨lw_p9, List.forall_mem_cons.mpr ⟨lw_p10, List.forall_mem_cons.mpr ⟨lw_p11, List.forall_mem_cons.mpr ⟨lw_p12, List.forall_mem_cons.mpr ⟨lw_p13, List.forall_mem_cons.mpr ⟨lw_p14, List.forall_mem_cons.mpr ⟨lw_p15, fun _ h => absurd h List.not_mem_nil⟩⟩⟩⟩⟩⟩⟩⟩⟩⟩⟩⟩⟩⟩⟩⟩
theorem lw_p16 : lw_okq (⟨"PortsBench$Judge", "setCrossing", "()V"⟩, 14) := ⟨⟨by decide +kernel, by decide +kernel⟩, List.mem_of_getElem? (i := 249) (by decide +kernel), List.mem_of_getElem? (i := 694) (by decide +kernel), List.mem_of_getElem? (i := 695) (by decide +kernel)⟩
theorem lw_p17 : lw_okq (⟨"PortsBenchModel", "isPlace", "(III)Z"⟩, 19) := ⟨⟨by decide +kernel, by decide +kernel⟩, List.mem_of_getElem? (i := 736) (by decide +kernel), List.mem_of_getElem? (i := 814) (by decide +kernel), List.mem_of_getElem? (i := 815) (by decide +kernel)⟩
theorem lw_p18 : lw_okq (⟨"PortsBenchModel", "isBox", "(I)Z"⟩, 19) := ⟨⟨by decide +kernel, by decide +kernel⟩, List.mem_of_getElem? (i := 736) (by decide +kernel), List.mem_of_getElem? (i := 818) (by decide +kernel), List.mem_of_getElem? (i := 819) (by decide +kernel)⟩
theorem lw_p19 : lw_okq (⟨"PortsBenchModel", "sets", "(IIIIIIII)I"⟩, 19) := ⟨⟨by decide +kernel, by decide +kernel⟩, List.mem_of_getElem? (i := 736) (by decide +kernel), List.mem_of_getElem? (i := 828) (by decide +kernel), List.mem_of_getElem? (i := 829) (by decide +kernel)⟩
theorem lw_p20 : lw_okq (⟨"PortsBenchModel", "takes", "(I)V"⟩, 19) := ⟨⟨by decide +kernel, by decide +kernel⟩, List.mem_of_getElem? (i := 736) (by decide +kernel), List.mem_of_getElem? (i := 832) (by decide +kernel), List.mem_of_getElem? (i := 833) (by decide +kernel)⟩
theorem lw_p21 : lw_okq (⟨"PortsBenchModel", "of", "(J)I"⟩, 19) := ⟨⟨by decide +kernel, by decide +kernel⟩, List.mem_of_getElem? (i := 736) (by decide +kernel), List.mem_of_getElem? (i := 836) (by decide +kernel), List.mem_of_getElem? (i := 837) (by decide +kernel)⟩
theorem lw_p22 : lw_okq (⟨"PortsBenchModel", "fresh", "()I"⟩, 19) := ⟨⟨by decide +kernel, by decide +kernel⟩, List.mem_of_getElem? (i := 736) (by decide +kernel), List.mem_of_getElem? (i := 840) (by decide +kernel), List.mem_of_getElem? (i := 841) (by decide +kernel)⟩
theorem lw_p23 : lw_okq (⟨"PortsBenchModel", "triple", "(III)I"⟩, 19) := ⟨⟨by decide +kernel, by decide +kernel⟩, List.mem_of_getElem? (i := 736) (by decide +kernel), List.mem_of_getElem? (i := 845) (by decide +kernel), List.mem_of_getElem? (i := 846) (by decide +kernel)⟩
theorem lw_p24 : lw_okq (⟨"PortsBenchModel", "minus", "(I)I"⟩, 19) := ⟨⟨by decide +kernel, by decide +kernel⟩, List.mem_of_getElem? (i := 736) (by decide +kernel), List.mem_of_getElem? (i := 849) (by decide +kernel), List.mem_of_getElem? (i := 850) (by decide +kernel)⟩
theorem lw_p25 : lw_okq (⟨"PortsBenchModel", "makes", "(IIII)V"⟩, 19) := ⟨⟨by decide +kernel, by decide +kernel⟩, List.mem_of_getElem? (i := 736) (by decide +kernel), List.mem_of_getElem? (i := 853) (by decide +kernel), List.mem_of_getElem? (i := 854) (by decide +kernel)⟩
theorem lw_p26 : lw_okq (⟨"PortsBenchModel", "common", "(II)I"⟩, 19) := ⟨⟨by decide +kernel, by decide +kernel⟩, List.mem_of_getElem? (i := 736) (by decide +kernel), List.mem_of_getElem? (i := 857) (by decide +kernel), List.mem_of_getElem? (i := 858) (by decide +kernel)⟩
theorem lw_p27 : lw_okq (⟨"PortsBenchModel", "divides", "(III)I"⟩, 19) := ⟨⟨by decide +kernel, by decide +kernel⟩, List.mem_of_getElem? (i := 736) (by decide +kernel), List.mem_of_getElem? (i := 861) (by decide +kernel), List.mem_of_getElem? (i := 862) (by decide +kernel)⟩
theorem lw_p28 : lw_okq (⟨"PortsBenchModel", "stand", "(II)I"⟩, 19) := ⟨⟨by decide +kernel, by decide +kernel⟩, List.mem_of_getElem? (i := 736) (by decide +kernel), List.mem_of_getElem? (i := 865) (by decide +kernel), List.mem_of_getElem? (i := 866) (by decide +kernel)⟩
theorem lw_p29 : lw_okq (⟨"PortsBenchModel", "one", "(II)I"⟩, 19) := ⟨⟨by decide +kernel, by decide +kernel⟩, List.mem_of_getElem? (i := 736) (by decide +kernel), List.mem_of_getElem? (i := 870) (by decide +kernel), List.mem_of_getElem? (i := 871) (by decide +kernel)⟩
theorem lw_p30 : lw_okq (⟨"PortsBenchModel", "trims", "(I)V"⟩, 19) := ⟨⟨by decide +kernel, by decide +kernel⟩, List.mem_of_getElem? (i := 736) (by decide +kernel), List.mem_of_getElem? (i := 874) (by decide +kernel), List.mem_of_getElem? (i := 875) (by decide +kernel)⟩
theorem lw_p31 : lw_okq (⟨"PortsBenchModel", "by", "(II)I"⟩, 19) := ⟨⟨by decide +kernel, by decide +kernel⟩, List.mem_of_getElem? (i := 736) (by decide +kernel), List.mem_of_getElem? (i := 878) (by decide +kernel), List.mem_of_getElem? (i := 879) (by decide +kernel)⟩
def lw_privs_2 : List (MethodName × Nat) := [(⟨"PortsBench$Judge", "setCrossing", "()V"⟩, 14), (⟨"PortsBenchModel", "isPlace", "(III)Z"⟩, 19), (⟨"PortsBenchModel", "isBox", "(I)Z"⟩, 19), (⟨"PortsBenchModel", "sets", "(IIIIIIII)I"⟩, 19), (⟨"PortsBenchModel", "takes", "(I)V"⟩, 19), (⟨"PortsBenchModel", "of", "(J)I"⟩, 19), (⟨"PortsBenchModel", "fresh", "()I"⟩, 19), (⟨"PortsBenchModel", "triple", "(III)I"⟩, 19), (⟨"PortsBenchModel", "minus", "(I)I"⟩, 19), (⟨"PortsBenchModel", "makes", "(IIII)V"⟩, 19), (⟨"PortsBenchModel", "common", "(II)I"⟩, 19), (⟨"PortsBenchModel", "divides", "(III)I"⟩, 19), (⟨"PortsBenchModel", "stand", "(II)I"⟩, 19), (⟨"PortsBenchModel", "one", "(II)I"⟩, 19), (⟨"PortsBenchModel", "trims", "(I)V"⟩, 19), (⟨"PortsBenchModel", "by", "(II)I"⟩, 19)]
theorem lw_r2 : ∀ q ∈ lw_privs_2, lw_okq q := List.forall_mem_cons.mpr ⟨lw_p16, List.forall_mem_cons.mpr ⟨lw_p17, List.forall_mem_cons.mpr ⟨lw_p18, List.forall_mem_cons.mpr ⟨lw_p19, List.forall_mem_cons.mpr ⟨lw_p20, List.forall_mem_cons.mpr ⟨lw_p21, List.forall_mem_cons.mpr ⟨lw_p22, List.forall_mem_cons.mpr ⟨lw_p23, List.forall_mem_cons.mpr ⟨lw_p24, List.forall_mem_cons.mpr ⟨lw_p25, List.forall_mem_cons.mpr ⟨lw_p26, List.forall_mem_cons.mpr ⟨lw_p27, List.forall_mem_cons.mpr ⟨lw_p28, List.forall_mem_cons.mpr ⟨lw_p29, List.forall_mem_cons.mpr ⟨lw_p30, List.forall_mem_cons.mpr ⟨lw_p31, fun _ h => absurd h List.not_mem_nil⟩⟩⟩⟩⟩⟩⟩⟩⟩⟩⟩⟩⟩⟩⟩⟩
theorem lw_p32 : lw_okq (⟨"PortsBenchModel", "splits", "(I)Z"⟩, 19) := ⟨⟨by decide +kernel, by decide +kernel⟩, List.mem_of_getElem? (i := 736) (by decide +kernel), List.mem_of_getElem? (i := 882) (by decide +kernel), List.mem_of_getElem? (i := 883) (by decide +kernel)⟩
theorem lw_p33 : lw_okq (⟨"PortsBenchModel", "times", "(II)I"⟩, 19) := ⟨⟨by decide +kernel, by decide +kernel⟩, List.mem_of_getElem? (i := 736) (by decide +kernel), List.mem_of_getElem? (i := 887) (by decide +kernel), List.mem_of_getElem? (i := 888) (by decide +kernel)⟩
theorem lw_p34 : lw_okq (⟨"PortsBenchModel", "ends", "(I)I"⟩, 19) := ⟨⟨by decide +kernel, by decide +kernel⟩, List.mem_of_getElem? (i := 736) (by decide +kernel), List.mem_of_getElem? (i := 891) (by decide +kernel), List.mem_of_getElem? (i := 892) (by decide +kernel)⟩
theorem lw_p35 : lw_okq (⟨"PortsBenchModel", "keep", "()V"⟩, 19) := ⟨⟨by decide +kernel, by decide +kernel⟩, List.mem_of_getElem? (i := 736) (by decide +kernel), List.mem_of_getElem? (i := 895) (by decide +kernel), List.mem_of_getElem? (i := 896) (by decide +kernel)⟩
theorem lw_p36 : lw_okq (⟨"PortsBenchModel", "has", "(II)Z"⟩, 19) := ⟨⟨by decide +kernel, by decide +kernel⟩, List.mem_of_getElem? (i := 736) (by decide +kernel), List.mem_of_getElem? (i := 911) (by decide +kernel), List.mem_of_getElem? (i := 912) (by decide +kernel)⟩
theorem lw_p37 : lw_okq (⟨"PortsBenchModel", "whole", "(J)I"⟩, 19) := ⟨⟨by decide +kernel, by decide +kernel⟩, List.mem_of_getElem? (i := 736) (by decide +kernel), List.mem_of_getElem? (i := 915) (by decide +kernel), List.mem_of_getElem? (i := 916) (by decide +kernel)⟩
theorem lw_p38 : lw_okq (⟨"PortsBenchModel", "entry", "(IIII)I"⟩, 19) := ⟨⟨by decide +kernel, by decide +kernel⟩, List.mem_of_getElem? (i := 736) (by decide +kernel), List.mem_of_getElem? (i := 919) (by decide +kernel), List.mem_of_getElem? (i := 920) (by decide +kernel)⟩
theorem lw_p39 : lw_okq (⟨"PortsBenchModel", "loaded", "(I)I"⟩, 19) := ⟨⟨by decide +kernel, by decide +kernel⟩, List.mem_of_getElem? (i := 736) (by decide +kernel), List.mem_of_getElem? (i := 926) (by decide +kernel), List.mem_of_getElem? (i := 927) (by decide +kernel)⟩
theorem lw_p40 : lw_okq (⟨"PortsBenchModel", "plus", "(II)I"⟩, 19) := ⟨⟨by decide +kernel, by decide +kernel⟩, List.mem_of_getElem? (i := 736) (by decide +kernel), List.mem_of_getElem? (i := 930) (by decide +kernel), List.mem_of_getElem? (i := 931) (by decide +kernel)⟩
theorem lw_p41 : lw_okq (⟨"PortsBenchModel", "at", "(II)I"⟩, 19) := ⟨⟨by decide +kernel, by decide +kernel⟩, List.mem_of_getElem? (i := 736) (by decide +kernel), List.mem_of_getElem? (i := 934) (by decide +kernel), List.mem_of_getElem? (i := 935) (by decide +kernel)⟩
theorem lw_p42 : lw_okq (⟨"PortsBenchModel", "product", "(II)I"⟩, 19) := ⟨⟨by decide +kernel, by decide +kernel⟩, List.mem_of_getElem? (i := 736) (by decide +kernel), List.mem_of_getElem? (i := 938) (by decide +kernel), List.mem_of_getElem? (i := 939) (by decide +kernel)⟩
theorem lw_p43 : lw_okq (⟨"PortsBenchModel", "less", "(II)I"⟩, 19) := ⟨⟨by decide +kernel, by decide +kernel⟩, List.mem_of_getElem? (i := 736) (by decide +kernel), List.mem_of_getElem? (i := 942) (by decide +kernel), List.mem_of_getElem? (i := 943) (by decide +kernel)⟩
theorem lw_p44 : lw_okq (⟨"PortsBenchModel", "lessen", "(II)I"⟩, 19) := ⟨⟨by decide +kernel, by decide +kernel⟩, List.mem_of_getElem? (i := 736) (by decide +kernel), List.mem_of_getElem? (i := 946) (by decide +kernel), List.mem_of_getElem? (i := 947) (by decide +kernel)⟩
theorem lw_p45 : lw_okq (⟨"PortsBenchModel", "turnedSign", "(I)I"⟩, 19) := ⟨⟨by decide +kernel, by decide +kernel⟩, List.mem_of_getElem? (i := 736) (by decide +kernel), List.mem_of_getElem? (i := 950) (by decide +kernel), List.mem_of_getElem? (i := 951) (by decide +kernel)⟩
theorem lw_p46 : lw_okq (⟨"PortsBenchModel", "added", "(II)I"⟩, 19) := ⟨⟨by decide +kernel, by decide +kernel⟩, List.mem_of_getElem? (i := 736) (by decide +kernel), List.mem_of_getElem? (i := 954) (by decide +kernel), List.mem_of_getElem? (i := 955) (by decide +kernel)⟩
theorem lw_p47 : lw_okq (⟨"PortsBenchModel", "isZero", "(I)Z"⟩, 19) := ⟨⟨by decide +kernel, by decide +kernel⟩, List.mem_of_getElem? (i := 736) (by decide +kernel), List.mem_of_getElem? (i := 958) (by decide +kernel), List.mem_of_getElem? (i := 959) (by decide +kernel)⟩
def lw_privs_3 : List (MethodName × Nat) := [(⟨"PortsBenchModel", "splits", "(I)Z"⟩, 19), (⟨"PortsBenchModel", "times", "(II)I"⟩, 19), (⟨"PortsBenchModel", "ends", "(I)I"⟩, 19), (⟨"PortsBenchModel", "keep", "()V"⟩, 19), (⟨"PortsBenchModel", "has", "(II)Z"⟩, 19), (⟨"PortsBenchModel", "whole", "(J)I"⟩, 19), (⟨"PortsBenchModel", "entry", "(IIII)I"⟩, 19), (⟨"PortsBenchModel", "loaded", "(I)I"⟩, 19), (⟨"PortsBenchModel", "plus", "(II)I"⟩, 19), (⟨"PortsBenchModel", "at", "(II)I"⟩, 19), (⟨"PortsBenchModel", "product", "(II)I"⟩, 19), (⟨"PortsBenchModel", "less", "(II)I"⟩, 19), (⟨"PortsBenchModel", "lessen", "(II)I"⟩, 19), (⟨"PortsBenchModel", "turnedSign", "(I)I"⟩, 19), (⟨"PortsBenchModel", "added", "(II)I"⟩, 19), (⟨"PortsBenchModel", "isZero", "(I)Z"⟩, 19)]
theorem lw_r3 : ∀ q ∈ lw_privs_3, lw_okq q := List.forall_mem_cons.mpr ⟨lw_p32, List.forall_mem_cons.mpr ⟨lw_p33, List.forall_mem_cons.mpr ⟨lw_p34, List.forall_mem_cons.mpr ⟨lw_p35, List.forall_mem_cons.mpr ⟨lw_p36, List.forall_mem_cons.mpr ⟨lw_p37, List.forall_mem_cons.mpr ⟨lw_p38, List.forall_mem_cons.mpr ⟨lw_p39, List.forall_mem_cons.mpr ⟨lw_p40, List.forall_mem_cons.mpr ⟨lw_p41, List.forall_mem_cons.mpr ⟨lw_p42, List.forall_mem_cons.mpr ⟨lw_p43, List.forall_mem_cons.mpr ⟨lw_p44, List.forall_mem_cons.mpr ⟨lw_p45, List.forall_mem_cons.mpr ⟨lw_p46, List.forall_mem_cons.mpr ⟨lw_p47, fun _ h => absurd h List.not_mem_nil⟩⟩⟩⟩⟩⟩⟩⟩⟩⟩⟩⟩⟩⟩⟩⟩
theorem lw_p48 : lw_okq (⟨"PortsBenchModel", "isNought", "(I)Z"⟩, 19) := ⟨⟨by decide +kernel, by decide +kernel⟩, List.mem_of_getElem? (i := 736) (by decide +kernel), List.mem_of_getElem? (i := 962) (by decide +kernel), List.mem_of_getElem? (i := 963) (by decide +kernel)⟩
theorem lw_p49 : lw_okq (⟨"PortsBenchModel", "refuses", "(II)I"⟩, 19) := ⟨⟨by decide +kernel, by decide +kernel⟩, List.mem_of_getElem? (i := 736) (by decide +kernel), List.mem_of_getElem? (i := 966) (by decide +kernel), List.mem_of_getElem? (i := 967) (by decide +kernel)⟩
theorem lw_p50 : lw_okq (⟨"PortsBenchModel", "begins", "()V"⟩, 19) := ⟨⟨by decide +kernel, by decide +kernel⟩, List.mem_of_getElem? (i := 736) (by decide +kernel), List.mem_of_getElem? (i := 970) (by decide +kernel), List.mem_of_getElem? (i := 971) (by decide +kernel)⟩
theorem lw_p51 : lw_okq (⟨"PortsBenchModel", "joined", "(IIIII)I"⟩, 19) := ⟨⟨by decide +kernel, by decide +kernel⟩, List.mem_of_getElem? (i := 736) (by decide +kernel), List.mem_of_getElem? (i := 974) (by decide +kernel), List.mem_of_getElem? (i := 975) (by decide +kernel)⟩
theorem lw_p52 : lw_okq (⟨"PortsBenchModel", "quotientOf", "(II)I"⟩, 19) := ⟨⟨by decide +kernel, by decide +kernel⟩, List.mem_of_getElem? (i := 736) (by decide +kernel), List.mem_of_getElem? (i := 978) (by decide +kernel), List.mem_of_getElem? (i := 979) (by decide +kernel)⟩
theorem lw_p53 : lw_okq (⟨"PortsBenchModel", "mirrored", "(I)I"⟩, 19) := ⟨⟨by decide +kernel, by decide +kernel⟩, List.mem_of_getElem? (i := 736) (by decide +kernel), List.mem_of_getElem? (i := 982) (by decide +kernel), List.mem_of_getElem? (i := 983) (by decide +kernel)⟩
theorem lw_p54 : lw_okq (⟨"PortsBenchModel", "square", "(I)I"⟩, 19) := ⟨⟨by decide +kernel, by decide +kernel⟩, List.mem_of_getElem? (i := 736) (by decide +kernel), List.mem_of_getElem? (i := 986) (by decide +kernel), List.mem_of_getElem? (i := 987) (by decide +kernel)⟩
theorem lw_p55 : lw_okq (⟨"PortsBenchModel", "leftOver", "(IIII)I"⟩, 19) := ⟨⟨by decide +kernel, by decide +kernel⟩, List.mem_of_getElem? (i := 736) (by decide +kernel), List.mem_of_getElem? (i := 994) (by decide +kernel), List.mem_of_getElem? (i := 995) (by decide +kernel)⟩
theorem lw_p56 : lw_okq (⟨"PortsBenchModel", "without", "(IIIIII)I"⟩, 19) := ⟨⟨by decide +kernel, by decide +kernel⟩, List.mem_of_getElem? (i := 736) (by decide +kernel), List.mem_of_getElem? (i := 998) (by decide +kernel), List.mem_of_getElem? (i := 999) (by decide +kernel)⟩
theorem lw_p57 : lw_okq (⟨"PortsBenchModel", "rows", "(III)V"⟩, 19) := ⟨⟨by decide +kernel, by decide +kernel⟩, List.mem_of_getElem? (i := 736) (by decide +kernel), List.mem_of_getElem? (i := 1015) (by decide +kernel), List.mem_of_getElem? (i := 1016) (by decide +kernel)⟩
theorem lw_p58 : lw_okq (⟨"PortsBenchModel", "worth", "(III)I"⟩, 19) := ⟨⟨by decide +kernel, by decide +kernel⟩, List.mem_of_getElem? (i := 736) (by decide +kernel), List.mem_of_getElem? (i := 1019) (by decide +kernel), List.mem_of_getElem? (i := 1020) (by decide +kernel)⟩
theorem lw_p59 : lw_okq (⟨"PortsBenchModel", "underneath", "(III)I"⟩, 19) := ⟨⟨by decide +kernel, by decide +kernel⟩, List.mem_of_getElem? (i := 736) (by decide +kernel), List.mem_of_getElem? (i := 1027) (by decide +kernel), List.mem_of_getElem? (i := 1028) (by decide +kernel)⟩
theorem lw_p60 : lw_okq (⟨"PortsBenchModel", "quarter", "(II)I"⟩, 19) := ⟨⟨by decide +kernel, by decide +kernel⟩, List.mem_of_getElem? (i := 736) (by decide +kernel), List.mem_of_getElem? (i := 1040) (by decide +kernel), List.mem_of_getElem? (i := 1041) (by decide +kernel)⟩
theorem lw_p61 : lw_okq (⟨"PortsBenchModel", "isLike", "(II)Z"⟩, 19) := ⟨⟨by decide +kernel, by decide +kernel⟩, List.mem_of_getElem? (i := 736) (by decide +kernel), List.mem_of_getElem? (i := 1063) (by decide +kernel), List.mem_of_getElem? (i := 1064) (by decide +kernel)⟩
theorem lw_p62 : lw_okq (⟨"PortsBenchModel", "passes", "(II)I"⟩, 19) := ⟨⟨by decide +kernel, by decide +kernel⟩, List.mem_of_getElem? (i := 736) (by decide +kernel), List.mem_of_getElem? (i := 1067) (by decide +kernel), List.mem_of_getElem? (i := 1068) (by decide +kernel)⟩
theorem lw_p63 : lw_okq (⟨"PortsBenchModel", "sizeOf", "(I)I"⟩, 19) := ⟨⟨by decide +kernel, by decide +kernel⟩, List.mem_of_getElem? (i := 736) (by decide +kernel), List.mem_of_getElem? (i := 1071) (by decide +kernel), List.mem_of_getElem? (i := 1072) (by decide +kernel)⟩
def lw_privs_4 : List (MethodName × Nat) := [(⟨"PortsBenchModel", "isNought", "(I)Z"⟩, 19), (⟨"PortsBenchModel", "refuses", "(II)I"⟩, 19), (⟨"PortsBenchModel", "begins", "()V"⟩, 19), (⟨"PortsBenchModel", "joined", "(IIIII)I"⟩, 19), (⟨"PortsBenchModel", "quotientOf", "(II)I"⟩, 19), (⟨"PortsBenchModel", "mirrored", "(I)I"⟩, 19), (⟨"PortsBenchModel", "square", "(I)I"⟩, 19), (⟨"PortsBenchModel", "leftOver", "(IIII)I"⟩, 19), (⟨"PortsBenchModel", "without", "(IIIIII)I"⟩, 19), (⟨"PortsBenchModel", "rows", "(III)V"⟩, 19), (⟨"PortsBenchModel", "worth", "(III)I"⟩, 19), (⟨"PortsBenchModel", "underneath", "(III)I"⟩, 19), (⟨"PortsBenchModel", "quarter", "(II)I"⟩, 19), (⟨"PortsBenchModel", "isLike", "(II)Z"⟩, 19), (⟨"PortsBenchModel", "passes", "(II)I"⟩, 19), (⟨"PortsBenchModel", "sizeOf", "(I)I"⟩, 19)]
theorem lw_r4 : ∀ q ∈ lw_privs_4, lw_okq q := List.forall_mem_cons.mpr ⟨lw_p48, List.forall_mem_cons.mpr ⟨lw_p49, List.forall_mem_cons.mpr ⟨lw_p50, List.forall_mem_cons.mpr ⟨lw_p51, List.forall_mem_cons.mpr ⟨lw_p52, List.forall_mem_cons.mpr ⟨lw_p53, List.forall_mem_cons.mpr ⟨lw_p54, List.forall_mem_cons.mpr ⟨lw_p55, List.forall_mem_cons.mpr ⟨lw_p56, List.forall_mem_cons.mpr ⟨lw_p57, List.forall_mem_cons.mpr ⟨lw_p58, List.forall_mem_cons.mpr ⟨lw_p59, List.forall_mem_cons.mpr ⟨lw_p60, List.forall_mem_cons.mpr ⟨lw_p61, List.forall_mem_cons.mpr ⟨lw_p62, List.forall_mem_cons.mpr ⟨lw_p63, fun _ h => absurd h List.not_mem_nil⟩⟩⟩⟩⟩⟩⟩⟩⟩⟩⟩⟩⟩⟩⟩⟩
theorem lw_p64 : lw_okq (⟨"PortsBenchModel", "spare", "(II)I"⟩, 19) := ⟨⟨by decide +kernel, by decide +kernel⟩, List.mem_of_getElem? (i := 736) (by decide +kernel), List.mem_of_getElem? (i := 1075) (by decide +kernel), List.mem_of_getElem? (i := 1076) (by decide +kernel)⟩
theorem lw_p65 : lw_okq (⟨"PortsBenchModel", "signOf", "(I)I"⟩, 19) := ⟨⟨by decide +kernel, by decide +kernel⟩, List.mem_of_getElem? (i := 736) (by decide +kernel), List.mem_of_getElem? (i := 1079) (by decide +kernel), List.mem_of_getElem? (i := 1080) (by decide +kernel)⟩
theorem lw_p66 : lw_okq (⟨"PortsBenchModel", "stands", "(II)I"⟩, 19) := ⟨⟨by decide +kernel, by decide +kernel⟩, List.mem_of_getElem? (i := 736) (by decide +kernel), List.mem_of_getElem? (i := 1092) (by decide +kernel), List.mem_of_getElem? (i := 1093) (by decide +kernel)⟩
def lw_privs_5 : List (MethodName × Nat) := [(⟨"PortsBenchModel", "spare", "(II)I"⟩, 19), (⟨"PortsBenchModel", "signOf", "(I)I"⟩, 19), (⟨"PortsBenchModel", "stands", "(II)I"⟩, 19)]
theorem lw_r5 : ∀ q ∈ lw_privs_5, lw_okq q := List.forall_mem_cons.mpr ⟨lw_p64, List.forall_mem_cons.mpr ⟨lw_p65, List.forall_mem_cons.mpr ⟨lw_p66, fun _ h => absurd h List.not_mem_nil⟩⟩⟩
def lw_privs : List (MethodName × Nat) := lw_privs_1 ++ (lw_privs_2 ++ (lw_privs_3 ++ (lw_privs_4 ++ (lw_privs_5))))
def lw_tbl : List Cond := k2_sels lw_privs ++ tables_1
theorem lw_privs_ok : ∀ q ∈ lw_privs, lw_okq q := by
  show ∀ q ∈ lw_privs_1 ++ (lw_privs_2 ++ (lw_privs_3 ++ (lw_privs_4 ++ (lw_privs_5)))), lw_okq q
  exact List.forall_mem_append.mpr ⟨lw_r1, List.forall_mem_append.mpr ⟨lw_r2, List.forall_mem_append.mpr ⟨lw_r3, List.forall_mem_append.mpr ⟨lw_r4, lw_r5⟩⟩⟩⟩

/-! ===== BEGIN printed: names, fields, word lists, decode rows ===== -/
def RX0 : String := "PortsBench$Acts"
def TX0 : u_T := fun k => match k with
  | 0 => ("PortsBench$Acts", "shelf", "LPortsBench$Shelf;", true)
  | 1 => ("PortsBench$Acts", "lowest", "LPortsBench$Lowest;", true)
  | 2 => ("PortsBench$Acts", "a", "[LPortsBench$Ratio;", true)
  | 3 => ("PortsBench$Acts", "b", "[LPortsBench$Ratio;", true)
  | 4 => ("PortsBench$Acts", "one", "LPortsBench$Ratio;", true)
  | 5 => ("PortsBench$Acts", "quarter", "LPortsBench$Ratio;", true)
  | 6 => ("PortsBench$Acts", "e", "LPortsBench$Ratio;", true)
  | 7 => ("PortsBench$Acts", "f", "LPortsBench$Ratio;", true)
  | 8 => ("PortsBench$Acts", "g", "LPortsBench$Ratio;", true)
  | 9 => ("PortsBench$Acts", "t", "LPortsBench$Ratio;", true)
  | 10 => ("PortsBench$Acts", "z", "LPortsBench$Ratio;", true)
  | 11 => ("PortsBench$Acts", "rows", "[LPortsBench$Gauss;", true)
  | 12 => ("PortsBench$Acts", "answers", "[LPortsBench$Gauss;", true)
  | 13 => ("PortsBench$Acts", "minor", "LPortsBench$Gauss;", true)
  | 14 => ("PortsBench$Acts", "term", "LPortsBench$Gauss;", true)
  | _ => ("PortsBench$Acts", "square", "LPortsBench$Gauss;", true)
def tyX0 : Nat → FieldType := fun k => match k with
  | 0 => .object "PortsBench$Shelf"
  | 1 => .object "PortsBench$Lowest"
  | 2 => .array (.object "PortsBench$Ratio")
  | 3 => .array (.object "PortsBench$Ratio")
  | 4 => .object "PortsBench$Ratio"
  | 5 => .object "PortsBench$Ratio"
  | 6 => .object "PortsBench$Ratio"
  | 7 => .object "PortsBench$Ratio"
  | 8 => .object "PortsBench$Ratio"
  | 9 => .object "PortsBench$Ratio"
  | 10 => .object "PortsBench$Ratio"
  | 11 => .array (.object "PortsBench$Gauss")
  | 12 => .array (.object "PortsBench$Gauss")
  | 13 => .object "PortsBench$Gauss"
  | 14 => .object "PortsBench$Gauss"
  | _ => .object "PortsBench$Gauss"
abbrev wsX00 : List Cond := u_ws RX0 TX0 16
theorem nmX0 : ∀ a, a < 16 → ∀ b, b < 16 → a ≠ b → (TX0 a).2.1 ≠ (TX0 b).2.1 := by decide +kernel
theorem tyX0_ok : ∀ k, k < 16 → parseFieldDescriptor (TX0 k).2.2.1 = some (tyX0 k) := by decide +kernel
abbrev cX0_init : ByteArray := prog_2_method_1_code
def yX0_init : MethodName := ⟨RX0, "<init>", "(LPortsBench$Shelf;)V"⟩
abbrev cX0_start : ByteArray := prog_2_method_2_code
def yX0_start : MethodName := ⟨RX0, "start", "(I)V"⟩
abbrev cX0_foundBig : ByteArray := prog_2_method_3_code
def yX0_foundBig : MethodName := ⟨RX0, "foundBig", "()Z"⟩
abbrev cX0_loadBox : ByteArray := prog_2_method_4_code
def yX0_loadBox : MethodName := ⟨RX0, "loadBox", "([LPortsBench$Ratio;IIZ)V"⟩
abbrev cX0_joined : ByteArray := prog_2_method_5_code
def yX0_joined : MethodName := ⟨RX0, "joined", "(III)I"⟩
abbrev cX0_takenOff : ByteArray := prog_2_method_6_code
def yX0_takenOff : MethodName := ⟨RX0, "takenOff", "(IIIZ)I"⟩
abbrev cX0_closed : ByteArray := prog_2_method_7_code
def yX0_closed : MethodName := ⟨RX0, "closed", "(III)I"⟩
abbrev cX0_undone : ByteArray := prog_2_method_8_code
def yX0_undone : MethodName := ⟨RX0, "undone", "(III)I"⟩
abbrev cX0_learned : ByteArray := prog_2_method_9_code
def yX0_learned : MethodName := ⟨RX0, "learned", "(III)I"⟩
abbrev cX0_setDeterminant : ByteArray := prog_2_method_10_code
def yX0_setDeterminant : MethodName := ⟨RX0, "setDeterminant", "(LPortsBench$Gauss;III)V"⟩
abbrev cX0_inTime : ByteArray := prog_2_method_11_code
def yX0_inTime : MethodName := ⟨RX0, "inTime", "(III)V"⟩
def RX1 : String := "PortsBench$Gauss"
def TX1 : u_T := fun k => match k with
  | 0 => ("PortsBench$Gauss", "re", "LPortsBench$Whole;", true)
  | 1 => ("PortsBench$Gauss", "im", "LPortsBench$Whole;", true)
  | _ => ("PortsBench$Gauss", "spare", "LPortsBench$Whole;", true)
def tyX1 : Nat → FieldType := fun k => match k with
  | 0 => .object "PortsBench$Whole"
  | 1 => .object "PortsBench$Whole"
  | _ => .object "PortsBench$Whole"
abbrev wsX10 : List Cond := u_ws RX1 TX1 3
theorem nmX1 : ∀ a, a < 3 → ∀ b, b < 3 → a ≠ b → (TX1 a).2.1 ≠ (TX1 b).2.1 := by decide +kernel
theorem tyX1_ok : ∀ k, k < 3 → parseFieldDescriptor (TX1 k).2.2.1 = some (tyX1 k) := by decide +kernel
abbrev cX1_init : ByteArray := prog_3_method_1_code
def yX1_init : MethodName := ⟨RX1, "<init>", "(LPortsBench$Whole;)V"⟩
abbrev cX1_row : ByteArray := prog_3_method_2_code
def yX1_row : MethodName := ⟨RX1, "row", "(ILPortsBench$Whole;)[LPortsBench$Gauss;"⟩
abbrev cX1_putSmall : ByteArray := prog_3_method_3_code
def yX1_putSmall : MethodName := ⟨RX1, "putSmall", "(I)V"⟩
abbrev cX1_assign : ByteArray := prog_3_method_4_code
def yX1_assign : MethodName := ⟨RX1, "assign", "(LPortsBench$Gauss;)V"⟩
abbrev cX1_isZero : ByteArray := prog_3_method_5_code
def yX1_isZero : MethodName := ⟨RX1, "isZero", "()Z"⟩
abbrev cX1_product : ByteArray := prog_3_method_6_code
def yX1_product : MethodName := ⟨RX1, "product", "(LPortsBench$Gauss;LPortsBench$Gauss;I)V"⟩
abbrev cX1_sum : ByteArray := prog_3_method_7_code
def yX1_sum : MethodName := ⟨RX1, "sum", "(LPortsBench$Gauss;LPortsBench$Gauss;I)V"⟩
abbrev cX1_rotate : ByteArray := prog_3_method_8_code
def yX1_rotate : MethodName := ⟨RX1, "rotate", "(I)V"⟩
abbrev cX1_setSize : ByteArray := prog_3_method_9_code
def yX1_setSize : MethodName := ⟨RX1, "setSize", "(LPortsBench$Whole;)V"⟩
def RX2 : String := "PortsBench$Judge"
def TX2 : u_T := fun k => match k with
  | 0 => ("PortsBench$Judge", "s", "[LPortsBench$Ratio;", true)
  | 1 => ("PortsBench$Judge", "mirrored", "LPortsBench$Gauss;", true)
  | 2 => ("PortsBench$Judge", "under", "LPortsBench$Gauss;", true)
  | 3 => ("PortsBench$Judge", "ofFirst", "LPortsBench$Gauss;", true)
  | 4 => ("PortsBench$Judge", "ofSecond", "LPortsBench$Gauss;", true)
  | 5 => ("PortsBench$Judge", "size", "LPortsBench$Whole;", true)
  | 6 => ("PortsBench$Judge", "left", "LPortsBench$Whole;", true)
  | 7 => ("PortsBench$Judge", "right", "LPortsBench$Whole;", true)
  | 8 => ("PortsBench$Judge", "leftUnder", "LPortsBench$Whole;", true)
  | 9 => ("PortsBench$Judge", "rightUnder", "LPortsBench$Whole;", true)
  | 10 => ("PortsBench$Judge", "lackOfFirst", "LPortsBench$Whole;", true)
  | 11 => ("PortsBench$Judge", "lackOfSecond", "LPortsBench$Whole;", true)
  | 12 => ("PortsBench$Judge", "lacks", "LPortsBench$Whole;", true)
  | _ => ("PortsBench$Judge", "crossing", "LPortsBench$Whole;", true)
def tyX2 : Nat → FieldType := fun k => match k with
  | 0 => .array (.object "PortsBench$Ratio")
  | 1 => .object "PortsBench$Gauss"
  | 2 => .object "PortsBench$Gauss"
  | 3 => .object "PortsBench$Gauss"
  | 4 => .object "PortsBench$Gauss"
  | 5 => .object "PortsBench$Whole"
  | 6 => .object "PortsBench$Whole"
  | 7 => .object "PortsBench$Whole"
  | 8 => .object "PortsBench$Whole"
  | 9 => .object "PortsBench$Whole"
  | 10 => .object "PortsBench$Whole"
  | 11 => .object "PortsBench$Whole"
  | 12 => .object "PortsBench$Whole"
  | _ => .object "PortsBench$Whole"
abbrev wsX20 : List Cond := u_ws RX2 TX2 14
theorem nmX2 : ∀ a, a < 14 → ∀ b, b < 14 → a ≠ b → (TX2 a).2.1 ≠ (TX2 b).2.1 := by decide +kernel
theorem tyX2_ok : ∀ k, k < 14 → parseFieldDescriptor (TX2 k).2.2.1 = some (tyX2 k) := by decide +kernel
abbrev cX2_init : ByteArray := prog_4_method_1_code
def yX2_init : MethodName := ⟨RX2, "<init>", "()V"⟩
abbrev cX2_compareSizes : ByteArray := prog_4_method_2_code
def yX2_compareSizes : MethodName := ⟨RX2, "compareSizes", "([III)I"⟩
abbrev cX2_setSizes : ByteArray := prog_4_method_3_code
def yX2_setSizes : MethodName := ⟨RX2, "setSizes", "(LPortsBench$Ratio;LPortsBench$Ratio;)V"⟩
abbrev cX2_measure : ByteArray := prog_4_method_4_code
def yX2_measure : MethodName := ⟨RX2, "measure", "([III)V"⟩
abbrev cX2_setLack : ByteArray := prog_4_method_5_code
def yX2_setLack : MethodName := ⟨RX2, "setLack", "(LPortsBench$Whole;)V"⟩
abbrev cX2_setCrossing : ByteArray := prog_4_method_6_code
def yX2_setCrossing : MethodName := ⟨RX2, "setCrossing", "()V"⟩
abbrev cX2_foundPassive : ByteArray := prog_4_method_7_code
def yX2_foundPassive : MethodName := ⟨RX2, "foundPassive", "()Z"⟩
abbrev cX2_foundLossless : ByteArray := prog_4_method_8_code
def yX2_foundLossless : MethodName := ⟨RX2, "foundLossless", "()Z"⟩
def RX3 : String := "PortsBench$Lowest"
def TX3 : u_T := fun k => match k with
  | 0 => ("PortsBench$Lowest", "cells", "[I", true)
  | 1 => ("PortsBench$Lowest", "top", "LPortsBench$Gauss;", true)
  | 2 => ("PortsBench$Lowest", "bottom", "LPortsBench$Whole;", true)
  | 3 => ("PortsBench$Lowest", "quotient", "LPortsBench$Whole;", true)
  | 4 => ("PortsBench$Lowest", "rest", "LPortsBench$Whole;", true)
  | 5 => ("PortsBench$Lowest", "greater", "LPortsBench$Whole;", false)
  | 6 => ("PortsBench$Lowest", "less", "LPortsBench$Whole;", false)
  | _ => ("PortsBench$Lowest", "big", "Z", false)
def tyX3 : Nat → FieldType := fun k => match k with
  | 0 => .array .int
  | 1 => .object "PortsBench$Gauss"
  | 2 => .object "PortsBench$Whole"
  | 3 => .object "PortsBench$Whole"
  | 4 => .object "PortsBench$Whole"
  | 5 => .object "PortsBench$Whole"
  | 6 => .object "PortsBench$Whole"
  | _ => .boolean
abbrev wsX30 : List Cond := u_ws RX3 TX3 8
theorem nmX3 : ∀ a, a < 8 → ∀ b, b < 8 → a ≠ b → (TX3 a).2.1 ≠ (TX3 b).2.1 := by decide +kernel
theorem tyX3_ok : ∀ k, k < 8 → parseFieldDescriptor (TX3 k).2.2.1 = some (tyX3 k) := by decide +kernel
abbrev cX3_init : ByteArray := prog_5_method_1_code
def yX3_init : MethodName := ⟨RX3, "<init>", "([ILPortsBench$Whole;)V"⟩
abbrev cX3_draft : ByteArray := prog_5_method_2_code
def yX3_draft : MethodName := ⟨RX3, "draft", "(LPortsBench$Gauss;LPortsBench$Gauss;II)V"⟩
abbrev cX3_share : ByteArray := prog_5_method_3_code
def yX3_share : MethodName := ⟨RX3, "share", "(LPortsBench$Whole;I)Z"⟩
abbrev cX3_swap : ByteArray := prog_5_method_4_code
def yX3_swap : MethodName := ⟨RX3, "swap", "()V"⟩
abbrev cX3_shareByHeads : ByteArray := prog_5_method_5_code
def yX3_shareByHeads : MethodName := ⟨RX3, "shareByHeads", "()Z"⟩
abbrev cX3_scaleOf : ByteArray := prog_5_method_6_code
def yX3_scaleOf : MethodName := ⟨RX3, "scaleOf", "(I)J"⟩
abbrev cX3_writePart : ByteArray := prog_5_method_7_code
def yX3_writePart : MethodName := ⟨RX3, "writePart", "(LPortsBench$Whole;I)Z"⟩
def RX4 : String := "PortsBench$Ratio"
def TX4 : u_T := fun k => match k with
  | 0 => ("PortsBench$Ratio", "over", "LPortsBench$Gauss;", true)
  | 1 => ("PortsBench$Ratio", "under", "LPortsBench$Gauss;", true)
  | _ => ("PortsBench$Ratio", "spare", "LPortsBench$Gauss;", true)
def tyX4 : Nat → FieldType := fun k => match k with
  | 0 => .object "PortsBench$Gauss"
  | 1 => .object "PortsBench$Gauss"
  | _ => .object "PortsBench$Gauss"
abbrev wsX40 : List Cond := u_ws RX4 TX4 3
theorem nmX4 : ∀ a, a < 3 → ∀ b, b < 3 → a ≠ b → (TX4 a).2.1 ≠ (TX4 b).2.1 := by decide +kernel
theorem tyX4_ok : ∀ k, k < 3 → parseFieldDescriptor (TX4 k).2.2.1 = some (tyX4 k) := by decide +kernel
abbrev cX4_init : ByteArray := prog_6_method_1_code
def yX4_init : MethodName := ⟨RX4, "<init>", "(LPortsBench$Gauss;LPortsBench$Whole;)V"⟩
abbrev cX4_four : ByteArray := prog_6_method_2_code
def yX4_four : MethodName := ⟨RX4, "four", "(LPortsBench$Gauss;LPortsBench$Whole;)[LPortsBench$Ratio;"⟩
abbrev cX4_putSmall : ByteArray := prog_6_method_3_code
def yX4_putSmall : MethodName := ⟨RX4, "putSmall", "(II)V"⟩
abbrev cX4_load : ByteArray := prog_6_method_4_code
def yX4_load : MethodName := ⟨RX4, "load", "([II)V"⟩
abbrev cX4_isZero : ByteArray := prog_6_method_5_code
def yX4_isZero : MethodName := ⟨RX4, "isZero", "()Z"⟩
abbrev cX4_product : ByteArray := prog_6_method_6_code
def yX4_product : MethodName := ⟨RX4, "product", "(LPortsBench$Ratio;LPortsBench$Ratio;)V"⟩
abbrev cX4_quotient : ByteArray := prog_6_method_7_code
def yX4_quotient : MethodName := ⟨RX4, "quotient", "(LPortsBench$Ratio;LPortsBench$Ratio;)V"⟩
abbrev cX4_sum : ByteArray := prog_6_method_8_code
def yX4_sum : MethodName := ⟨RX4, "sum", "(LPortsBench$Ratio;LPortsBench$Ratio;I)V"⟩
def RX5 : String := "PortsBench$Shelf"
def TX5 : u_T := fun k => match k with
  | 0 => ("PortsBench$Shelf", "cells", "[I", true)
  | 1 => ("PortsBench$Shelf", "draft", "[I", true)
  | 2 => ("PortsBench$Shelf", "ports", "[I", true)
  | 3 => ("PortsBench$Shelf", "former", "[I", true)
  | 4 => ("PortsBench$Shelf", "formerBox", "[I", true)
  | 5 => ("PortsBench$Shelf", "next", "I", false)
  | 6 => ("PortsBench$Shelf", "boxes", "I", false)
  | _ => ("PortsBench$Shelf", "acts", "I", false)
def tyX5 : Nat → FieldType := fun k => match k with
  | 0 => .array .int
  | 1 => .array .int
  | 2 => .array .int
  | 3 => .array .int
  | 4 => .array .int
  | 5 => .int
  | 6 => .int
  | _ => .int
abbrev wsX50 : List Cond := u_ws RX5 TX5 8
theorem nmX5 : ∀ a, a < 8 → ∀ b, b < 8 → a ≠ b → (TX5 a).2.1 ≠ (TX5 b).2.1 := by decide +kernel
theorem tyX5_ok : ∀ k, k < 8 → parseFieldDescriptor (TX5 k).2.2.1 = some (tyX5 k) := by decide +kernel
abbrev cX5_init : ByteArray := prog_7_method_1_code
def yX5_init : MethodName := ⟨RX5, "<init>", "()V"⟩
abbrev cX5_addBox : ByteArray := prog_7_method_2_code
def yX5_addBox : MethodName := ⟨RX5, "addBox", "(I)I"⟩
abbrev cX5_hasBox : ByteArray := prog_7_method_3_code
def yX5_hasBox : MethodName := ⟨RX5, "hasBox", "(I)Z"⟩
abbrev cX5_hasBoxWith : ByteArray := prog_7_method_4_code
def yX5_hasBoxWith : MethodName := ⟨RX5, "hasBoxWith", "(II)Z"⟩
abbrev cX5_hasEntry : ByteArray := prog_7_method_5_code
def yX5_hasEntry : MethodName := ⟨RX5, "hasEntry", "(III)Z"⟩
abbrev cX5_portsOf : ByteArray := prog_7_method_6_code
def yX5_portsOf : MethodName := ⟨RX5, "portsOf", "(I)I"⟩
abbrev cX5_alike : ByteArray := prog_7_method_7_code
def yX5_alike : MethodName := ⟨RX5, "alike", "(III)Z"⟩
abbrev cX5_startDraft : ByteArray := prog_7_method_8_code
def yX5_startDraft : MethodName := ⟨RX5, "startDraft", "(I)V"⟩
abbrev cX5_draftTurned : ByteArray := prog_7_method_9_code
def yX5_draftTurned : MethodName := ⟨RX5, "draftTurned", "(I)V"⟩
abbrev cX5_draftSmall : ByteArray := prog_7_method_10_code
def yX5_draftSmall : MethodName := ⟨RX5, "draftSmall", "(IIIII)V"⟩
abbrev cX5_keepDraft : ByteArray := prog_7_method_11_code
def yX5_keepDraft : MethodName := ⟨RX5, "keepDraft", "(I)V"⟩
abbrev cX5_takeBack : ByteArray := prog_7_method_12_code
def yX5_takeBack : MethodName := ⟨RX5, "takeBack", "()Z"⟩
def RX6 : String := "PortsBench$Whole"
def TX6 : u_T := fun k => match k with
  | 0 => ("PortsBench$Whole", "sign", "I", false)
  | 1 => ("PortsBench$Whole", "size", "I", false)
  | _ => ("PortsBench$Whole", "limbs", "[I", true)
def tyX6 : Nat → FieldType := fun k => match k with
  | 0 => .int
  | 1 => .int
  | _ => .array .int
abbrev wsX60 : List Cond := u_ws RX6 TX6 3
theorem nmX6 : ∀ a, a < 3 → ∀ b, b < 3 → a ≠ b → (TX6 a).2.1 ≠ (TX6 b).2.1 := by decide +kernel
theorem tyX6_ok : ∀ k, k < 3 → parseFieldDescriptor (TX6 k).2.2.1 = some (tyX6 k) := by decide +kernel
abbrev cX6_init : ByteArray := prog_8_method_1_code
def yX6_init : MethodName := ⟨RX6, "<init>", "()V"⟩
abbrev cX6_clear : ByteArray := prog_8_method_2_code
def yX6_clear : MethodName := ⟨RX6, "clear", "()V"⟩
abbrev cX6_shortGcd : ByteArray := prog_8_method_3_code
def yX6_shortGcd : MethodName := ⟨RX6, "shortGcd", "(JJ)J"⟩
abbrev cX6_putSmall : ByteArray := prog_8_method_4_code
def yX6_putSmall : MethodName := ⟨RX6, "putSmall", "(J)V"⟩
abbrev cX6_load : ByteArray := prog_8_method_5_code
def yX6_load : MethodName := ⟨RX6, "load", "([II)V"⟩
abbrev cX6_assign : ByteArray := prog_8_method_6_code
def yX6_assign : MethodName := ⟨RX6, "assign", "(LPortsBench$Whole;)V"⟩
abbrev cX6_limbAt : ByteArray := prog_8_method_7_code
def yX6_limbAt : MethodName := ⟨RX6, "limbAt", "(I)I"⟩
abbrev cX6_head : ByteArray := prog_8_method_8_code
def yX6_head : MethodName := ⟨RX6, "head", "()J"⟩
abbrev cX6_scaledHead : ByteArray := prog_8_method_9_code
def yX6_scaledHead : MethodName := ⟨RX6, "scaledHead", "(IJ)J"⟩
abbrev cX6_trim : ByteArray := prog_8_method_10_code
def yX6_trim : MethodName := ⟨RX6, "trim", "(II)V"⟩
abbrev cX6_compareWith : ByteArray := prog_8_method_11_code
def yX6_compareWith : MethodName := ⟨RX6, "compareWith", "(LPortsBench$Whole;)I"⟩
abbrev cX6_compareLimbs : ByteArray := prog_8_method_12_code
def yX6_compareLimbs : MethodName := ⟨RX6, "compareLimbs", "(LPortsBench$Whole;)I"⟩
abbrev cX6_product : ByteArray := prog_8_method_13_code
def yX6_product : MethodName := ⟨RX6, "product", "(LPortsBench$Whole;LPortsBench$Whole;)V"⟩
abbrev cX6_sum : ByteArray := prog_8_method_14_code
def yX6_sum : MethodName := ⟨RX6, "sum", "(LPortsBench$Whole;LPortsBench$Whole;I)V"⟩
abbrev cX6_mix : ByteArray := prog_8_method_15_code
def yX6_mix : MethodName := ⟨RX6, "mix", "(LPortsBench$Whole;JLPortsBench$Whole;JI)V"⟩
abbrev cX6_divide : ByteArray := prog_8_method_16_code
def yX6_divide : MethodName := ⟨RX6, "divide", "(LPortsBench$Whole;LPortsBench$Whole;)V"⟩
abbrev cX6_divideLimb : ByteArray := prog_8_method_17_code
def yX6_divideLimb : MethodName := ⟨RX6, "divideLimb", "(LPortsBench$Whole;II)I"⟩
abbrev cX6_addShifted : ByteArray := prog_8_method_18_code
def yX6_addShifted : MethodName := ⟨RX6, "addShifted", "(LPortsBench$Whole;IIJ)J"⟩
abbrev cX6_multiplyShort : ByteArray := prog_8_method_19_code
def yX6_multiplyShort : MethodName := ⟨RX6, "multiplyShort", "(II)V"⟩
abbrev cX6_divideShort : ByteArray := prog_8_method_20_code
def yX6_divideShort : MethodName := ⟨RX6, "divideShort", "(I)J"⟩
def RX7 : String := "PortsBench"
def TX7 : u_T := fun k => match k with
  | 0 => ("PortsBench", "shelf", "LPortsBench$Shelf;", true)
  | 1 => ("PortsBench", "acts", "LPortsBench$Acts;", true)
  | 2 => ("PortsBench", "judge", "LPortsBench$Judge;", true)
  | 3 => ("PortsBench", "noTone", "I", false)
  | _ => ("PortsBench", "noDivisor", "I", false)
def tyX7 : Nat → FieldType := fun k => match k with
  | 0 => .object "PortsBench$Shelf"
  | 1 => .object "PortsBench$Acts"
  | 2 => .object "PortsBench$Judge"
  | 3 => .int
  | _ => .int
abbrev wsX70 : List Cond := u_ws RX7 TX7 5
theorem nmX7 : ∀ a, a < 5 → ∀ b, b < 5 → a ≠ b → (TX7 a).2.1 ≠ (TX7 b).2.1 := by decide +kernel
theorem tyX7_ok : ∀ k, k < 5 → parseFieldDescriptor (TX7 k).2.2.1 = some (tyX7 k) := by decide +kernel
abbrev cX7_init : ByteArray := prog_1_method_1_code
def yX7_init : MethodName := ⟨RX7, "<init>", "()V"⟩
abbrev cX7_box : ByteArray := prog_1_method_2_code
def yX7_box : MethodName := ⟨RX7, "box", "(I)I"⟩
abbrev cX7_set : ByteArray := prog_1_method_3_code
def yX7_set : MethodName := ⟨RX7, "set", "(IIIIIII)I"⟩
abbrev cX7_all : ByteArray := prog_1_method_4_code
def yX7_all : MethodName := ⟨RX7, "all", "(IIIIII)I"⟩
abbrev cX7_copy : ByteArray := prog_1_method_5_code
def yX7_copy : MethodName := ⟨RX7, "copy", "(II)I"⟩
abbrev cX7_join : ByteArray := prog_1_method_6_code
def yX7_join : MethodName := ⟨RX7, "join", "(III)I"⟩
abbrev cX7_takeOff : ByteArray := prog_1_method_7_code
def yX7_takeOff : MethodName := ⟨RX7, "takeOff", "(IIII)I"⟩
abbrev cX7_turn : ByteArray := prog_1_method_8_code
def yX7_turn : MethodName := ⟨RX7, "turn", "(II)I"⟩
abbrev cX7_close : ByteArray := prog_1_method_9_code
def yX7_close : MethodName := ⟨RX7, "close", "(III)I"⟩
abbrev cX7_learn : ByteArray := prog_1_method_10_code
def yX7_learn : MethodName := ⟨RX7, "learn", "(III)I"⟩
abbrev cX7_correct : ByteArray := prog_1_method_11_code
def yX7_correct : MethodName := ⟨RX7, "correct", "(III)I"⟩
abbrev cX7_step : ByteArray := prog_1_method_12_code
def yX7_step : MethodName := ⟨RX7, "step", "(III)I"⟩
abbrev cX7_time : ByteArray := prog_1_method_13_code
def yX7_time : MethodName := ⟨RX7, "time", "(IIII)I"⟩
abbrev cX7_undo : ByteArray := prog_1_method_14_code
def yX7_undo : MethodName := ⟨RX7, "undo", "()I"⟩
abbrev cX7_where : ByteArray := prog_1_method_15_code
def yX7_where : MethodName := ⟨RX7, "where", "(I)I"⟩
abbrev cX7_part : ByteArray := prog_1_method_16_code
def yX7_part : MethodName := ⟨RX7, "part", "(IIIII)J"⟩
abbrev cX7_about : ByteArray := prog_1_method_17_code
def yX7_about : MethodName := ⟨RX7, "about", "(II)I"⟩
abbrev cX7_is : ByteArray := prog_1_method_18_code
def yX7_is : MethodName := ⟨RX7, "is", "(III)I"⟩
abbrev cX7_against : ByteArray := prog_1_method_19_code
def yX7_against : MethodName := ⟨RX7, "against", "(IIIIIII)I"⟩
abbrev cX7_worst : ByteArray := prog_1_method_20_code
def yX7_worst : MethodName := ⟨RX7, "worst", "(III)I"⟩
abbrev cX7_same : ByteArray := prog_1_method_21_code
def yX7_same : MethodName := ⟨RX7, "same", "(II)I"⟩
abbrev cX7_count : ByteArray := prog_1_method_22_code
def yX7_count : MethodName := ⟨RX7, "count", "(I)I"⟩
abbrev cX7_hasThreeOfOnePort : ByteArray := prog_1_method_23_code
def yX7_hasThreeOfOnePort : MethodName := ⟨RX7, "hasThreeOfOnePort", "(I)Z"⟩
abbrev cX7_refuse : ByteArray := prog_1_method_24_code
def yX7_refuse : MethodName := ⟨RX7, "refuse", "(II)I"⟩
abbrev cX7_finish : ByteArray := prog_1_method_25_code
def yX7_finish : MethodName := ⟨RX7, "finish", "(I)I"⟩
abbrev cX7_holds : ByteArray := prog_1_method_26_code
def yX7_holds : MethodName := ⟨RX7, "holds", "(III)Z"⟩
abbrev cX7_isTone : ByteArray := prog_1_method_27_code
def yX7_isTone : MethodName := ⟨RX7, "isTone", "(I)Z"⟩
abbrev cX7_mayBeGiven : ByteArray := prog_1_method_28_code
def yX7_mayBeGiven : MethodName := ⟨RX7, "mayBeGiven", "(III)Z"⟩
abbrev cX7_entry : ByteArray := prog_1_method_29_code
def yX7_entry : MethodName := ⟨RX7, "entry", "(II)I"⟩
abbrev cX7_place : ByteArray := prog_1_method_30_code
def yX7_place : MethodName := ⟨RX7, "place", "(III)I"⟩
def RX8 : String := "PortsBenchModel"
def TX8 : u_T := fun k => match k with
  | 0 => ("PortsBenchModel", "ports", "[I", true)
  | 1 => ("PortsBenchModel", "boxes", "I", false)
  | 2 => ("PortsBenchModel", "st", "[J", true)
  | 3 => ("PortsBenchModel", "kept", "[J", true)
  | 4 => ("PortsBenchModel", "keptMany", "I", false)
  | 5 => ("PortsBenchModel", "whereTone", "I", false)
  | 6 => ("PortsBenchModel", "whereDivisor", "I", false)
  | 7 => ("PortsBenchModel", "limb", "[I", true)
  | 8 => ("PortsBenchModel", "size", "[I", true)
  | 9 => ("PortsBenchModel", "sign", "[I", true)
  | 10 => ("PortsBenchModel", "top", "I", false)
  | 11 => ("PortsBenchModel", "above", "[I", true)
  | 12 => ("PortsBenchModel", "below", "[I", true)
  | 13 => ("PortsBenchModel", "quotient", "[I", true)
  | 14 => ("PortsBenchModel", "high", "J", false)
  | 15 => ("PortsBenchModel", "low", "J", false)
  | 16 => ("PortsBenchModel", "made", "[J", true)
  | 17 => ("PortsBenchModel", "isBig", "Z", false)
  | _ => ("PortsBenchModel", "table", "[I", true)
def tyX8 : Nat → FieldType := fun k => match k with
  | 0 => .array .int
  | 1 => .int
  | 2 => .array .long
  | 3 => .array .long
  | 4 => .int
  | 5 => .int
  | 6 => .int
  | 7 => .array .int
  | 8 => .array .int
  | 9 => .array .int
  | 10 => .int
  | 11 => .array .int
  | 12 => .array .int
  | 13 => .array .int
  | 14 => .long
  | 15 => .long
  | 16 => .array .long
  | 17 => .boolean
  | _ => .array .int
abbrev wsX80 : List Cond := u_ws RX8 TX8 19
theorem nmX8 : ∀ a, a < 19 → ∀ b, b < 19 → a ≠ b → (TX8 a).2.1 ≠ (TX8 b).2.1 := by decide +kernel
theorem tyX8_ok : ∀ k, k < 19 → parseFieldDescriptor (TX8 k).2.2.1 = some (tyX8 k) := by decide +kernel
abbrev cX8_init : ByteArray := prog_10_method_1_code
def yX8_init : MethodName := ⟨RX8, "<init>", "()V"⟩
abbrev cX8_in : ByteArray := prog_10_method_2_code
def yX8_in : MethodName := ⟨RX8, "in", "(JJJ)Z"⟩
abbrev cX8_fresh : ByteArray := prog_10_method_3_code
def yX8_fresh : MethodName := ⟨RX8, "fresh", "()I"⟩
abbrev cX8_of : ByteArray := prog_10_method_4_code
def yX8_of : MethodName := ⟨RX8, "of", "(J)I"⟩
abbrev cX8_trims : ByteArray := prog_10_method_5_code
def yX8_trims : MethodName := ⟨RX8, "trims", "(I)V"⟩
abbrev cX8_stand : ByteArray := prog_10_method_6_code
def yX8_stand : MethodName := ⟨RX8, "stand", "(II)I"⟩
abbrev cX8_at : ByteArray := prog_10_method_7_code
def yX8_at : MethodName := ⟨RX8, "at", "(II)I"⟩
abbrev cX8_plus : ByteArray := prog_10_method_8_code
def yX8_plus : MethodName := ⟨RX8, "plus", "(II)I"⟩
abbrev cX8_minus : ByteArray := prog_10_method_9_code
def yX8_minus : MethodName := ⟨RX8, "minus", "(I)I"⟩
abbrev cX8_less : ByteArray := prog_10_method_10_code
def yX8_less : MethodName := ⟨RX8, "less", "(II)I"⟩
abbrev cX8_times : ByteArray := prog_10_method_11_code
def yX8_times : MethodName := ⟨RX8, "times", "(II)I"⟩
abbrev cX8_isNought : ByteArray := prog_10_method_12_code
def yX8_isNought : MethodName := ⟨RX8, "isNought", "(I)Z"⟩
abbrev cX8_signOf : ByteArray := prog_10_method_13_code
def yX8_signOf : MethodName := ⟨RX8, "signOf", "(I)I"⟩
abbrev cX8_divides : ByteArray := prog_10_method_14_code
def yX8_divides : MethodName := ⟨RX8, "divides", "(III)I"⟩
abbrev cX8_one : ByteArray := prog_10_method_15_code
def yX8_one : MethodName := ⟨RX8, "one", "(II)I"⟩
abbrev cX8_common : ByteArray := prog_10_method_16_code
def yX8_common : MethodName := ⟨RX8, "common", "(II)I"⟩
abbrev cX8_by : ByteArray := prog_10_method_17_code
def yX8_by : MethodName := ⟨RX8, "by", "(II)I"⟩
abbrev cX8_splits : ByteArray := prog_10_method_18_code
def yX8_splits : MethodName := ⟨RX8, "splits", "(I)Z"⟩
abbrev cX8_triple : ByteArray := prog_10_method_19_code
def yX8_triple : MethodName := ⟨RX8, "triple", "(III)I"⟩
abbrev cX8_whole : ByteArray := prog_10_method_20_code
def yX8_whole : MethodName := ⟨RX8, "whole", "(J)I"⟩
abbrev cX8_added : ByteArray := prog_10_method_21_code
def yX8_added : MethodName := ⟨RX8, "added", "(II)I"⟩
abbrev cX8_turnedSign : ByteArray := prog_10_method_22_code
def yX8_turnedSign : MethodName := ⟨RX8, "turnedSign", "(I)I"⟩
abbrev cX8_lessen : ByteArray := prog_10_method_23_code
def yX8_lessen : MethodName := ⟨RX8, "lessen", "(II)I"⟩
abbrev cX8_product : ByteArray := prog_10_method_24_code
def yX8_product : MethodName := ⟨RX8, "product", "(II)I"⟩
abbrev cX8_square : ByteArray := prog_10_method_25_code
def yX8_square : MethodName := ⟨RX8, "square", "(I)I"⟩
abbrev cX8_mirrored : ByteArray := prog_10_method_26_code
def yX8_mirrored : MethodName := ⟨RX8, "mirrored", "(I)I"⟩
abbrev cX8_quotientOf : ByteArray := prog_10_method_27_code
def yX8_quotientOf : MethodName := ⟨RX8, "quotientOf", "(II)I"⟩
abbrev cX8_isZero : ByteArray := prog_10_method_28_code
def yX8_isZero : MethodName := ⟨RX8, "isZero", "(I)Z"⟩
abbrev cX8_place : ByteArray := prog_10_method_29_code
def yX8_place : MethodName := ⟨RX8, "place", "(IIII)I"⟩
abbrev cX8_loaded : ByteArray := prog_10_method_30_code
def yX8_loaded : MethodName := ⟨RX8, "loaded", "(I)I"⟩
abbrev cX8_entry : ByteArray := prog_10_method_31_code
def yX8_entry : MethodName := ⟨RX8, "entry", "(IIII)I"⟩
abbrev cX8_makes : ByteArray := prog_10_method_32_code
def yX8_makes : MethodName := ⟨RX8, "makes", "(IIII)V"⟩
abbrev cX8_begins : ByteArray := prog_10_method_33_code
def yX8_begins : MethodName := ⟨RX8, "begins", "()V"⟩
abbrev cX8_keep : ByteArray := prog_10_method_34_code
def yX8_keep : MethodName := ⟨RX8, "keep", "()V"⟩
abbrev cX8_ends : ByteArray := prog_10_method_35_code
def yX8_ends : MethodName := ⟨RX8, "ends", "(I)I"⟩
abbrev cX8_refuses : ByteArray := prog_10_method_36_code
def yX8_refuses : MethodName := ⟨RX8, "refuses", "(II)I"⟩
abbrev cX8_isBox : ByteArray := prog_10_method_37_code
def yX8_isBox : MethodName := ⟨RX8, "isBox", "(I)Z"⟩
abbrev cX8_has : ByteArray := prog_10_method_38_code
def yX8_has : MethodName := ⟨RX8, "has", "(II)Z"⟩
abbrev cX8_isPlace : ByteArray := prog_10_method_39_code
def yX8_isPlace : MethodName := ⟨RX8, "isPlace", "(III)Z"⟩
abbrev cX8_box : ByteArray := prog_10_method_40_code
def yX8_box : MethodName := ⟨RX8, "box", "(I)I"⟩
abbrev cX8_areParts : ByteArray := prog_10_method_41_code
def yX8_areParts : MethodName := ⟨RX8, "areParts", "(III)Z"⟩
abbrev cX8_takes : ByteArray := prog_10_method_42_code
def yX8_takes : MethodName := ⟨RX8, "takes", "(I)V"⟩
abbrev cX8_sets : ByteArray := prog_10_method_43_code
def yX8_sets : MethodName := ⟨RX8, "sets", "(IIIIIIII)I"⟩
abbrev cX8_set : ByteArray := prog_10_method_44_code
def yX8_set : MethodName := ⟨RX8, "set", "(IIIIIII)I"⟩
abbrev cX8_all : ByteArray := prog_10_method_45_code
def yX8_all : MethodName := ⟨RX8, "all", "(IIIIII)I"⟩
abbrev cX8_copy : ByteArray := prog_10_method_46_code
def yX8_copy : MethodName := ⟨RX8, "copy", "(II)I"⟩
abbrev cX8_join : ByteArray := prog_10_method_47_code
def yX8_join : MethodName := ⟨RX8, "join", "(III)I"⟩
abbrev cX8_joined : ByteArray := prog_10_method_48_code
def yX8_joined : MethodName := ⟨RX8, "joined", "(IIIII)I"⟩
abbrev cX8_leftOver : ByteArray := prog_10_method_49_code
def yX8_leftOver : MethodName := ⟨RX8, "leftOver", "(IIII)I"⟩
abbrev cX8_takeOff : ByteArray := prog_10_method_50_code
def yX8_takeOff : MethodName := ⟨RX8, "takeOff", "(IIII)I"⟩
abbrev cX8_without : ByteArray := prog_10_method_51_code
def yX8_without : MethodName := ⟨RX8, "without", "(IIIIII)I"⟩
abbrev cX8_turn : ByteArray := prog_10_method_52_code
def yX8_turn : MethodName := ⟨RX8, "turn", "(II)I"⟩
abbrev cX8_close : ByteArray := prog_10_method_53_code
def yX8_close : MethodName := ⟨RX8, "close", "(III)I"⟩
abbrev cX8_rows : ByteArray := prog_10_method_54_code
def yX8_rows : MethodName := ⟨RX8, "rows", "(III)V"⟩
abbrev cX8_worth : ByteArray := prog_10_method_55_code
def yX8_worth : MethodName := ⟨RX8, "worth", "(III)I"⟩
abbrev cX8_learn : ByteArray := prog_10_method_56_code
def yX8_learn : MethodName := ⟨RX8, "learn", "(III)I"⟩
abbrev cX8_correct : ByteArray := prog_10_method_57_code
def yX8_correct : MethodName := ⟨RX8, "correct", "(III)I"⟩
abbrev cX8_underneath : ByteArray := prog_10_method_58_code
def yX8_underneath : MethodName := ⟨RX8, "underneath", "(III)I"⟩
abbrev cX8_step : ByteArray := prog_10_method_59_code
def yX8_step : MethodName := ⟨RX8, "step", "(III)I"⟩
abbrev cX8_quarter : ByteArray := prog_10_method_60_code
def yX8_quarter : MethodName := ⟨RX8, "quarter", "(II)I"⟩
abbrev cX8_time : ByteArray := prog_10_method_61_code
def yX8_time : MethodName := ⟨RX8, "time", "(IIII)I"⟩
abbrev cX8_undo : ByteArray := prog_10_method_62_code
def yX8_undo : MethodName := ⟨RX8, "undo", "()I"⟩
abbrev cX8_where : ByteArray := prog_10_method_63_code
def yX8_where : MethodName := ⟨RX8, "where", "(I)I"⟩
abbrev cX8_part : ByteArray := prog_10_method_64_code
def yX8_part : MethodName := ⟨RX8, "part", "(IIIII)J"⟩
abbrev cX8_sizeOf : ByteArray := prog_10_method_65_code
def yX8_sizeOf : MethodName := ⟨RX8, "sizeOf", "(I)I"⟩
abbrev cX8_spare : ByteArray := prog_10_method_66_code
def yX8_spare : MethodName := ⟨RX8, "spare", "(II)I"⟩
abbrev cX8_passes : ByteArray := prog_10_method_67_code
def yX8_passes : MethodName := ⟨RX8, "passes", "(II)I"⟩
abbrev cX8_isLike : ByteArray := prog_10_method_68_code
def yX8_isLike : MethodName := ⟨RX8, "isLike", "(II)Z"⟩
abbrev cX8_is : ByteArray := prog_10_method_69_code
def yX8_is : MethodName := ⟨RX8, "is", "(III)I"⟩
abbrev cX8_about : ByteArray := prog_10_method_70_code
def yX8_about : MethodName := ⟨RX8, "about", "(II)I"⟩
abbrev cX8_stands : ByteArray := prog_10_method_71_code
def yX8_stands : MethodName := ⟨RX8, "stands", "(II)I"⟩
abbrev cX8_against : ByteArray := prog_10_method_72_code
def yX8_against : MethodName := ⟨RX8, "against", "(IIIIIII)I"⟩
abbrev cX8_worst : ByteArray := prog_10_method_73_code
def yX8_worst : MethodName := ⟨RX8, "worst", "(III)I"⟩
abbrev cX8_same : ByteArray := prog_10_method_74_code
def yX8_same : MethodName := ⟨RX8, "same", "(II)I"⟩
abbrev cX8_count : ByteArray := prog_10_method_75_code
def yX8_count : MethodName := ⟨RX8, "count", "(I)I"⟩
def RJ9 : String := "java/lang/Math"
def TJ9 : u_T := fun k => match k with
  | _ => ("", "", "", false)
def tyJ9 : Nat → FieldType := fun k => match k with
  | _ => .int
abbrev wsJ90 : List Cond := u_ws RJ9 TJ9 0
theorem nmJ9 : ∀ a, a < 0 → ∀ b, b < 0 → a ≠ b → (TJ9 a).2.1 ≠ (TJ9 b).2.1 := by decide +kernel
theorem tyJ9_ok : ∀ k, k < 0 → parseFieldDescriptor (TJ9 k).2.2.1 = some (tyJ9 k) := by decide +kernel
abbrev cJ9_floorDiv_f86c9 : ByteArray := prog_11_method_49_code
def yJ9_floorDiv_f86c9 : MethodName := ⟨RJ9, "floorDiv", "(JJ)J"⟩
abbrev cJ9_abs_0f7a4 : ByteArray := prog_11_method_59_code
def yJ9_abs_0f7a4 : MethodName := ⟨RJ9, "abs", "(I)I"⟩
abbrev cJ9_abs_067f4 : ByteArray := prog_11_method_61_code
def yJ9_abs_067f4 : MethodName := ⟨RJ9, "abs", "(J)J"⟩
abbrev cJ9_max_7cf53 : ByteArray := prog_11_method_65_code
def yJ9_max_7cf53 : MethodName := ⟨RJ9, "max", "(II)I"⟩
abbrev cJ9_min_7cf53 : ByteArray := prog_11_method_69_code
def yJ9_min_7cf53 : MethodName := ⟨RJ9, "min", "(II)I"⟩
def RJ10 : String := "java/lang/System"
def TJ10 : u_T := fun k => match k with
  | _ => ("", "", "", false)
def tyJ10 : Nat → FieldType := fun k => match k with
  | _ => .int
abbrev wsJ100 : List Cond := u_ws RJ10 TJ10 0
theorem nmJ10 : ∀ a, a < 0 → ∀ b, b < 0 → a ≠ b → (TJ10 a).2.1 ≠ (TJ10 b).2.1 := by decide +kernel
theorem tyJ10_ok : ∀ k, k < 0 → parseFieldDescriptor (TJ10 k).2.2.1 = some (tyJ10 k) := by decide +kernel
def RL : String := "PortsBenchLaw"
abbrev cL_law : ByteArray := code
def yL_law : MethodName := ⟨RL, "law", "([I)Z"⟩
