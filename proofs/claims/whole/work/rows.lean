section
-- ===== PART A: goes FIRST, ahead of the names: the tables' words, and 'selects' of the private methods out of them =====
/-- a private method of a class that the tables say can be made, by its rows of tables_1 -/
def lw_okq (q : MethodName × Nat) : Prop := (q.1.cls ≠ "java/lang/invoke/MethodHandle" ∧ q.1.cls ≠ "java/lang/invoke/VarHandle") ∧ Cond.instantiable q.1.cls q.2 ∈ tables_1 ∧ Cond.privateMethod q.1 ∈ tables_1 ∧ Cond.instanceMethod q.1 ∈ tables_1
theorem lw_p0 : lw_okq (⟨"TouchUp", "failed", "(I)I"⟩, 7) := ⟨⟨by decide +kernel, by decide +kernel⟩, List.mem_of_getElem? (i := 14) (by decide +kernel), List.mem_of_getElem? (i := 270) (by decide +kernel), List.mem_of_getElem? (i := 271) (by decide +kernel)⟩
theorem lw_p1 : lw_okq (⟨"TouchUp$Sheet", "firstWrongInRows", "(IIII)I"⟩, 4) := ⟨⟨by decide +kernel, by decide +kernel⟩, List.mem_of_getElem? (i := 204) (by decide +kernel), List.mem_of_getElem? (i := 279) (by decide +kernel), List.mem_of_getElem? (i := 280) (by decide +kernel)⟩
theorem lw_p2 : lw_okq (⟨"TouchUp$Coat", "lossIn", "(IIII)I"⟩, 2) := ⟨⟨by decide +kernel, by decide +kernel⟩, List.mem_of_getElem? (i := 63) (by decide +kernel), List.mem_of_getElem? (i := 366) (by decide +kernel), List.mem_of_getElem? (i := 367) (by decide +kernel)⟩
theorem lw_p3 : lw_okq (⟨"TouchUp$Edges", "isSeenToRight", "(I)Z"⟩, 3) := ⟨⟨by decide +kernel, by decide +kernel⟩, List.mem_of_getElem? (i := 132) (by decide +kernel), List.mem_of_getElem? (i := 426) (by decide +kernel), List.mem_of_getElem? (i := 427) (by decide +kernel)⟩
theorem lw_p4 : lw_okq (⟨"TouchUp$Edges", "isSeenBetween", "(II)Z"⟩, 3) := ⟨⟨by decide +kernel, by decide +kernel⟩, List.mem_of_getElem? (i := 132) (by decide +kernel), List.mem_of_getElem? (i := 434) (by decide +kernel), List.mem_of_getElem? (i := 435) (by decide +kernel)⟩
theorem lw_p5 : lw_okq (⟨"TouchUp$Edges", "isSeenBelow", "(I)Z"⟩, 3) := ⟨⟨by decide +kernel, by decide +kernel⟩, List.mem_of_getElem? (i := 132) (by decide +kernel), List.mem_of_getElem? (i := 439) (by decide +kernel), List.mem_of_getElem? (i := 440) (by decide +kernel)⟩
theorem lw_p6 : lw_okq (⟨"TouchUp$Mixer", "sumOfDrops", "()I"⟩, 7) := ⟨⟨by decide +kernel, by decide +kernel⟩, List.mem_of_getElem? (i := 148) (by decide +kernel), List.mem_of_getElem? (i := 465) (by decide +kernel), List.mem_of_getElem? (i := 466) (by decide +kernel)⟩
theorem lw_p7 : lw_okq (⟨"TouchUp$Mixer", "leastInIt", "()I"⟩, 7) := ⟨⟨by decide +kernel, by decide +kernel⟩, List.mem_of_getElem? (i := 148) (by decide +kernel), List.mem_of_getElem? (i := 470) (by decide +kernel), List.mem_of_getElem? (i := 471) (by decide +kernel)⟩
theorem lw_p8 : lw_okq (⟨"TouchUp$Mixer", "keepIfBetter", "()V"⟩, 7) := ⟨⟨by decide +kernel, by decide +kernel⟩, List.mem_of_getElem? (i := 148) (by decide +kernel), List.mem_of_getElem? (i := 486) (by decide +kernel), List.mem_of_getElem? (i := 487) (by decide +kernel)⟩
theorem lw_p9 : lw_okq (⟨"TouchUp$Mixer", "farthestApart", "()I"⟩, 7) := ⟨⟨by decide +kernel, by decide +kernel⟩, List.mem_of_getElem? (i := 148) (by decide +kernel), List.mem_of_getElem? (i := 492) (by decide +kernel), List.mem_of_getElem? (i := 493) (by decide +kernel)⟩
theorem lw_p10 : lw_okq (⟨"TouchUp$Wall", "apartFresh", "(III)I"⟩, 11) := ⟨⟨by decide +kernel, by decide +kernel⟩, List.mem_of_getElem? (i := 24) (by decide +kernel), List.mem_of_getElem? (i := 509) (by decide +kernel), List.mem_of_getElem? (i := 510) (by decide +kernel)⟩
theorem lw_p11 : lw_okq (⟨"TouchUp$Patch", "keepIfBetter", "(IIII)V"⟩, 5) := ⟨⟨by decide +kernel, by decide +kernel⟩, List.mem_of_getElem? (i := 180) (by decide +kernel), List.mem_of_getElem? (i := 533) (by decide +kernel), List.mem_of_getElem? (i := 534) (by decide +kernel)⟩
theorem lw_p12 : lw_okq (⟨"TouchUp", "isAsTold", "(IIIII)Z"⟩, 7) := ⟨⟨by decide +kernel, by decide +kernel⟩, List.mem_of_getElem? (i := 14) (by decide +kernel), List.mem_of_getElem? (i := 571) (by decide +kernel), List.mem_of_getElem? (i := 572) (by decide +kernel)⟩
theorem lw_p13 : lw_okq (⟨"TouchUp", "tellFast", "(LTouchUp$Coat;)I"⟩, 7) := ⟨⟨by decide +kernel, by decide +kernel⟩, List.mem_of_getElem? (i := 14) (by decide +kernel), List.mem_of_getElem? (i := 616) (by decide +kernel), List.mem_of_getElem? (i := 617) (by decide +kernel)⟩
theorem lw_p14 : lw_okq (⟨"TouchUp", "mark", "(I)V"⟩, 7) := ⟨⟨by decide +kernel, by decide +kernel⟩, List.mem_of_getElem? (i := 14) (by decide +kernel), List.mem_of_getElem? (i := 620) (by decide +kernel), List.mem_of_getElem? (i := 621) (by decide +kernel)⟩
theorem lw_p15 : lw_okq (⟨"TouchUp", "tellShiny", "(LTouchUp$Coat;)I"⟩, 7) := ⟨⟨by decide +kernel, by decide +kernel⟩, List.mem_of_getElem? (i := 14) (by decide +kernel), List.mem_of_getElem? (i := 624) (by decide +kernel), List.mem_of_getElem? (i := 625) (by decide +kernel)⟩
def lw_privs_1 : List (MethodName × Nat) := [(⟨"TouchUp", "failed", "(I)I"⟩, 7), (⟨"TouchUp$Sheet", "firstWrongInRows", "(IIII)I"⟩, 4), (⟨"TouchUp$Coat", "lossIn", "(IIII)I"⟩, 2), (⟨"TouchUp$Edges", "isSeenToRight", "(I)Z"⟩, 3), (⟨"TouchUp$Edges", "isSeenBetween", "(II)Z"⟩, 3), (⟨"TouchUp$Edges", "isSeenBelow", "(I)Z"⟩, 3), (⟨"TouchUp$Mixer", "sumOfDrops", "()I"⟩, 7), (⟨"TouchUp$Mixer", "leastInIt", "()I"⟩, 7), (⟨"TouchUp$Mixer", "keepIfBetter", "()V"⟩, 7), (⟨"TouchUp$Mixer", "farthestApart", "()I"⟩, 7), (⟨"TouchUp$Wall", "apartFresh", "(III)I"⟩, 11), (⟨"TouchUp$Patch", "keepIfBetter", "(IIII)V"⟩, 5), (⟨"TouchUp", "isAsTold", "(IIIII)Z"⟩, 7), (⟨"TouchUp", "tellFast", "(LTouchUp$Coat;)I"⟩, 7), (⟨"TouchUp", "mark", "(I)V"⟩, 7), (⟨"TouchUp", "tellShiny", "(LTouchUp$Coat;)I"⟩, 7)]
theorem lw_r1 : ∀ q ∈ lw_privs_1, lw_okq q := List.forall_mem_cons.mpr ⟨lw_p0, List.forall_mem_cons.mpr ⟨lw_p1, List.forall_mem_cons.mpr ⟨lw_p2, List.forall_mem_cons.mpr ⟨lw_p3, List.forall_mem_cons.mpr ⟨lw_p4, List.forall_mem_cons.mpr ⟨lw_p5, List.forall_mem_cons.mpr ⟨lw_p6, List.forall_mem_cons.mpr ⟨lw_p7, List.forall_mem_cons.mpr ⟨lw_p8, List.forall_mem_cons.mpr ⟨lw_p9, List.forall_mem_cons.mpr ⟨lw_p10, List.forall_mem_cons.mpr ⟨lw_p11, List.forall_mem_cons.mpr ⟨lw_p12, List.forall_mem_cons.mpr ⟨lw_p13, List.forall_mem_cons.mpr ⟨lw_p14, List.forall_mem_cons.mpr ⟨lw_p15, fun _ h => absurd h List.not_mem_nil⟩⟩⟩⟩⟩⟩⟩⟩⟩⟩⟩⟩⟩⟩⟩⟩
theorem lw_p16 : lw_okq (⟨"TouchUp", "tellPlain", "(LTouchUp$Coat;)I"⟩, 7) := ⟨⟨by decide +kernel, by decide +kernel⟩, List.mem_of_getElem? (i := 14) (by decide +kernel), List.mem_of_getElem? (i := 628) (by decide +kernel), List.mem_of_getElem? (i := 629) (by decide +kernel)⟩
theorem lw_p17 : lw_okq (⟨"TouchUpModel", "against", "(IIII)I"⟩, 35) := ⟨⟨by decide +kernel, by decide +kernel⟩, List.mem_of_getElem? (i := 652) (by decide +kernel), List.mem_of_getElem? (i := 778) (by decide +kernel), List.mem_of_getElem? (i := 779) (by decide +kernel)⟩
theorem lw_p18 : lw_okq (⟨"TouchUpModel", "fails", "(I)I"⟩, 35) := ⟨⟨by decide +kernel, by decide +kernel⟩, List.mem_of_getElem? (i := 652) (by decide +kernel), List.mem_of_getElem? (i := 782) (by decide +kernel), List.mem_of_getElem? (i := 783) (by decide +kernel)⟩
theorem lw_p19 : lw_okq (⟨"TouchUpModel", "readWall", "(I)Z"⟩, 35) := ⟨⟨by decide +kernel, by decide +kernel⟩, List.mem_of_getElem? (i := 652) (by decide +kernel), List.mem_of_getElem? (i := 786) (by decide +kernel), List.mem_of_getElem? (i := 787) (by decide +kernel)⟩
theorem lw_p20 : lw_okq (⟨"TouchUpModel", "digit", "(III)I"⟩, 35) := ⟨⟨by decide +kernel, by decide +kernel⟩, List.mem_of_getElem? (i := 652) (by decide +kernel), List.mem_of_getElem? (i := 790) (by decide +kernel), List.mem_of_getElem? (i := 791) (by decide +kernel)⟩
theorem lw_p21 : lw_okq (⟨"TouchUpModel", "all", "()I"⟩, 35) := ⟨⟨by decide +kernel, by decide +kernel⟩, List.mem_of_getElem? (i := 652) (by decide +kernel), List.mem_of_getElem? (i := 794) (by decide +kernel), List.mem_of_getElem? (i := 795) (by decide +kernel)⟩
theorem lw_p22 : lw_okq (⟨"TouchUpModel", "addCoat", "(IIII)I"⟩, 35) := ⟨⟨by decide +kernel, by decide +kernel⟩, List.mem_of_getElem? (i := 652) (by decide +kernel), List.mem_of_getElem? (i := 798) (by decide +kernel), List.mem_of_getElem? (i := 799) (by decide +kernel)⟩
theorem lw_p23 : lw_okq (⟨"TouchUpModel", "isCell", "(I)Z"⟩, 35) := ⟨⟨by decide +kernel, by decide +kernel⟩, List.mem_of_getElem? (i := 652) (by decide +kernel), List.mem_of_getElem? (i := 806) (by decide +kernel), List.mem_of_getElem? (i := 807) (by decide +kernel)⟩
theorem lw_p24 : lw_okq (⟨"TouchUpModel", "isCoat", "(I)Z"⟩, 35) := ⟨⟨by decide +kernel, by decide +kernel⟩, List.mem_of_getElem? (i := 652) (by decide +kernel), List.mem_of_getElem? (i := 830) (by decide +kernel), List.mem_of_getElem? (i := 831) (by decide +kernel)⟩
theorem lw_p25 : lw_okq (⟨"TouchUpModel", "comesOf", "(IIIIZ)I"⟩, 35) := ⟨⟨by decide +kernel, by decide +kernel⟩, List.mem_of_getElem? (i := 652) (by decide +kernel), List.mem_of_getElem? (i := 842) (by decide +kernel), List.mem_of_getElem? (i := 843) (by decide +kernel)⟩
theorem lw_p26 : lw_okq (⟨"TouchUpModel", "comes", "(IIIIIZ)I"⟩, 35) := ⟨⟨by decide +kernel, by decide +kernel⟩, List.mem_of_getElem? (i := 652) (by decide +kernel), List.mem_of_getElem? (i := 846) (by decide +kernel), List.mem_of_getElem? (i := 847) (by decide +kernel)⟩
theorem lw_p27 : lw_okq (⟨"TouchUpModel", "isLight", "(I)Z"⟩, 35) := ⟨⟨by decide +kernel, by decide +kernel⟩, List.mem_of_getElem? (i := 652) (by decide +kernel), List.mem_of_getElem? (i := 858) (by decide +kernel), List.mem_of_getElem? (i := 859) (by decide +kernel)⟩
theorem lw_p28 : lw_okq (⟨"TouchUpModel", "lookNow", "(IIZ)I"⟩, 35) := ⟨⟨by decide +kernel, by decide +kernel⟩, List.mem_of_getElem? (i := 652) (by decide +kernel), List.mem_of_getElem? (i := 862) (by decide +kernel), List.mem_of_getElem? (i := 863) (by decide +kernel)⟩
theorem lw_p29 : lw_okq (⟨"TouchUpModel", "lookOf", "(IIIIZ)I"⟩, 35) := ⟨⟨by decide +kernel, by decide +kernel⟩, List.mem_of_getElem? (i := 652) (by decide +kernel), List.mem_of_getElem? (i := 866) (by decide +kernel), List.mem_of_getElem? (i := 867) (by decide +kernel)⟩
theorem lw_p30 : lw_okq (⟨"TouchUpModel", "seenOf", "(I)I"⟩, 35) := ⟨⟨by decide +kernel, by decide +kernel⟩, List.mem_of_getElem? (i := 652) (by decide +kernel), List.mem_of_getElem? (i := 881) (by decide +kernel), List.mem_of_getElem? (i := 882) (by decide +kernel)⟩
theorem lw_p31 : lw_okq (⟨"TouchUpModel", "isEdge", "(II)Z"⟩, 35) := ⟨⟨by decide +kernel, by decide +kernel⟩, List.mem_of_getElem? (i := 652) (by decide +kernel), List.mem_of_getElem? (i := 885) (by decide +kernel), List.mem_of_getElem? (i := 886) (by decide +kernel)⟩
def lw_privs_2 : List (MethodName × Nat) := [(⟨"TouchUp", "tellPlain", "(LTouchUp$Coat;)I"⟩, 7), (⟨"TouchUpModel", "against", "(IIII)I"⟩, 35), (⟨"TouchUpModel", "fails", "(I)I"⟩, 35), (⟨"TouchUpModel", "readWall", "(I)Z"⟩, 35), (⟨"TouchUpModel", "digit", "(III)I"⟩, 35), (⟨"TouchUpModel", "all", "()I"⟩, 35), (⟨"TouchUpModel", "addCoat", "(IIII)I"⟩, 35), (⟨"TouchUpModel", "isCell", "(I)Z"⟩, 35), (⟨"TouchUpModel", "isCoat", "(I)Z"⟩, 35), (⟨"TouchUpModel", "comesOf", "(IIIIZ)I"⟩, 35), (⟨"TouchUpModel", "comes", "(IIIIIZ)I"⟩, 35), (⟨"TouchUpModel", "isLight", "(I)Z"⟩, 35), (⟨"TouchUpModel", "lookNow", "(IIZ)I"⟩, 35), (⟨"TouchUpModel", "lookOf", "(IIIIZ)I"⟩, 35), (⟨"TouchUpModel", "seenOf", "(I)I"⟩, 35), (⟨"TouchUpModel", "isEdge", "(II)Z"⟩, 35)]
theorem lw_r2 : ∀ q ∈ lw_privs_2, lw_okq q := List.forall_mem_cons.mpr ⟨lw_p16, List.forall_mem_cons.mpr ⟨lw_p17, List.forall_mem_cons.mpr ⟨lw_p18, List.forall_mem_cons.mpr ⟨lw_p19, List.forall_mem_cons.mpr ⟨lw_p20, List.forall_mem_cons.mpr ⟨lw_p21, List.forall_mem_cons.mpr ⟨lw_p22, List.forall_mem_cons.mpr ⟨lw_p23, List.forall_mem_cons.mpr ⟨lw_p24, List.forall_mem_cons.mpr ⟨lw_p25, List.forall_mem_cons.mpr ⟨lw_p26, List.forall_mem_cons.mpr ⟨lw_p27, List.forall_mem_cons.mpr ⟨lw_p28, List.forall_mem_cons.mpr ⟨lw_p29, List.forall_mem_cons.mpr ⟨lw_p30, List.forall_mem_cons.mpr ⟨lw_p31, fun _ h => absurd h List.not_mem_nil⟩⟩⟩⟩⟩⟩⟩⟩⟩⟩⟩⟩⟩⟩⟩⟩
theorem lw_p32 : lw_okq (⟨"TouchUpModel", "areDrops", "()Z"⟩, 35) := ⟨⟨by decide +kernel, by decide +kernel⟩, List.mem_of_getElem? (i := 652) (by decide +kernel), List.mem_of_getElem? (i := 893) (by decide +kernel), List.mem_of_getElem? (i := 894) (by decide +kernel)⟩
theorem lw_p33 : lw_okq (⟨"TouchUpModel", "layMix", "()V"⟩, 35) := ⟨⟨by decide +kernel, by decide +kernel⟩, List.mem_of_getElem? (i := 652) (by decide +kernel), List.mem_of_getElem? (i := 897) (by decide +kernel), List.mem_of_getElem? (i := 898) (by decide +kernel)⟩
theorem lw_p34 : lw_okq (⟨"TouchUpModel", "findBest", "(I)V"⟩, 35) := ⟨⟨by decide +kernel, by decide +kernel⟩, List.mem_of_getElem? (i := 652) (by decide +kernel), List.mem_of_getElem? (i := 905) (by decide +kernel), List.mem_of_getElem? (i := 906) (by decide +kernel)⟩
theorem lw_p35 : lw_okq (⟨"TouchUpModel", "mixUnlike", "(I)I"⟩, 35) := ⟨⟨by decide +kernel, by decide +kernel⟩, List.mem_of_getElem? (i := 652) (by decide +kernel), List.mem_of_getElem? (i := 909) (by decide +kernel), List.mem_of_getElem? (i := 910) (by decide +kernel)⟩
theorem lw_p36 : lw_okq (⟨"TouchUpModel", "freshUnlike", "(III)I"⟩, 35) := ⟨⟨by decide +kernel, by decide +kernel⟩, List.mem_of_getElem? (i := 652) (by decide +kernel), List.mem_of_getElem? (i := 917) (by decide +kernel), List.mem_of_getElem? (i := 918) (by decide +kernel)⟩
theorem lw_p37 : lw_okq (⟨"TouchUpModel", "findPatch", "(II)V"⟩, 35) := ⟨⟨by decide +kernel, by decide +kernel⟩, List.mem_of_getElem? (i := 652) (by decide +kernel), List.mem_of_getElem? (i := 925) (by decide +kernel), List.mem_of_getElem? (i := 926) (by decide +kernel)⟩
theorem lw_p38 : lw_okq (⟨"TouchUpModel", "offer", "(III)V"⟩, 35) := ⟨⟨by decide +kernel, by decide +kernel⟩, List.mem_of_getElem? (i := 652) (by decide +kernel), List.mem_of_getElem? (i := 929) (by decide +kernel), List.mem_of_getElem? (i := 930) (by decide +kernel)⟩
theorem lw_p39 : lw_okq (⟨"TouchUpModel", "seenWith", "(III)I"⟩, 35) := ⟨⟨by decide +kernel, by decide +kernel⟩, List.mem_of_getElem? (i := 652) (by decide +kernel), List.mem_of_getElem? (i := 933) (by decide +kernel), List.mem_of_getElem? (i := 934) (by decide +kernel)⟩
theorem lw_p40 : lw_okq (⟨"TouchUpModel", "keepAll", "()V"⟩, 35) := ⟨⟨by decide +kernel, by decide +kernel⟩, List.mem_of_getElem? (i := 652) (by decide +kernel), List.mem_of_getElem? (i := 937) (by decide +kernel), List.mem_of_getElem? (i := 938) (by decide +kernel)⟩
theorem lw_p41 : lw_okq (⟨"TouchUpModel", "takeAll", "()V"⟩, 35) := ⟨⟨by decide +kernel, by decide +kernel⟩, List.mem_of_getElem? (i := 652) (by decide +kernel), List.mem_of_getElem? (i := 942) (by decide +kernel), List.mem_of_getElem? (i := 943) (by decide +kernel)⟩
theorem lw_p42 : lw_okq (⟨"TouchUpModel", "isSo", "(IIII)Z"⟩, 35) := ⟨⟨by decide +kernel, by decide +kernel⟩, List.mem_of_getElem? (i := 652) (by decide +kernel), List.mem_of_getElem? (i := 962) (by decide +kernel), List.mem_of_getElem? (i := 963) (by decide +kernel)⟩
theorem lw_p43 : lw_okq (⟨"TouchUpModel", "lost", "(I)J"⟩, 35) := ⟨⟨by decide +kernel, by decide +kernel⟩, List.mem_of_getElem? (i := 652) (by decide +kernel), List.mem_of_getElem? (i := 971) (by decide +kernel), List.mem_of_getElem? (i := 972) (by decide +kernel)⟩
theorem lw_p44 : lw_okq (⟨"TouchUpModel", "begins", "(I)V"⟩, 35) := ⟨⟨by decide +kernel, by decide +kernel⟩, List.mem_of_getElem? (i := 652) (by decide +kernel), List.mem_of_getElem? (i := 999) (by decide +kernel), List.mem_of_getElem? (i := 1000) (by decide +kernel)⟩
def lw_privs_3 : List (MethodName × Nat) := [(⟨"TouchUpModel", "areDrops", "()Z"⟩, 35), (⟨"TouchUpModel", "layMix", "()V"⟩, 35), (⟨"TouchUpModel", "findBest", "(I)V"⟩, 35), (⟨"TouchUpModel", "mixUnlike", "(I)I"⟩, 35), (⟨"TouchUpModel", "freshUnlike", "(III)I"⟩, 35), (⟨"TouchUpModel", "findPatch", "(II)V"⟩, 35), (⟨"TouchUpModel", "offer", "(III)V"⟩, 35), (⟨"TouchUpModel", "seenWith", "(III)I"⟩, 35), (⟨"TouchUpModel", "keepAll", "()V"⟩, 35), (⟨"TouchUpModel", "takeAll", "()V"⟩, 35), (⟨"TouchUpModel", "isSo", "(IIII)Z"⟩, 35), (⟨"TouchUpModel", "lost", "(I)J"⟩, 35), (⟨"TouchUpModel", "begins", "(I)V"⟩, 35)]
theorem lw_r3 : ∀ q ∈ lw_privs_3, lw_okq q := List.forall_mem_cons.mpr ⟨lw_p32, List.forall_mem_cons.mpr ⟨lw_p33, List.forall_mem_cons.mpr ⟨lw_p34, List.forall_mem_cons.mpr ⟨lw_p35, List.forall_mem_cons.mpr ⟨lw_p36, List.forall_mem_cons.mpr ⟨lw_p37, List.forall_mem_cons.mpr ⟨lw_p38, List.forall_mem_cons.mpr ⟨lw_p39, List.forall_mem_cons.mpr ⟨lw_p40, List.forall_mem_cons.mpr ⟨lw_p41, List.forall_mem_cons.mpr ⟨lw_p42, List.forall_mem_cons.mpr ⟨lw_p43, List.forall_mem_cons.mpr ⟨lw_p44, fun _ h => absurd h List.not_mem_nil⟩⟩⟩⟩⟩⟩⟩⟩⟩⟩⟩⟩⟩
def lw_privs : List (MethodName × Nat) := lw_privs_1 ++ (lw_privs_2 ++ (lw_privs_3))
def lw_tbl : List Cond := k2_sels lw_privs ++ tables_1
theorem lw_privs_ok : ∀ q ∈ lw_privs, lw_okq q := by
  show ∀ q ∈ lw_privs_1 ++ (lw_privs_2 ++ (lw_privs_3)), lw_okq q
  exact List.forall_mem_append.mpr ⟨lw_r1, List.forall_mem_append.mpr ⟨lw_r2, lw_r3⟩⟩
end
section
/-! ===== BEGIN words of one list among another's, by their places ===== -/
theorem goodIn_r {big : List Cond} (ws : List Cond) (ps : List Nat) (hp : ws = ps.filterMap (fun i => big[i]?)) (h : ws.all goodWord = true) : GoodIn big ws := by
  intro w hw
  have h1 := List.all_eq_true.mp h w hw
  rw [hp] at hw
  obtain ⟨i, -, hi⟩ := List.mem_filterMap.mp hw
  have hm : w ∈ big := by first | exact List.mem_of_getElem? hi | exact List.getElem?_mem hi
  exact ⟨hm, good_of_word h1⟩
theorem goodIn_app {big a b : List Cond} (ha : GoodIn big a) (hb : GoodIn big b) : GoodIn big (a ++ b) := fun w h => (List.mem_append.mp h).elim (ha w) (hb w)
theorem goodIn_ca {big a b : List Cond} {c : Cond} (ha : GoodIn big (c :: a)) (hb : GoodIn big b) : GoodIn big (c :: (a ++ b)) := fun w h => (List.mem_cons.mp h).elim (fun e => ha w (List.mem_cons.mpr (Or.inl e))) (fun h => (List.mem_append.mp h).elim (fun h => ha w (List.mem_cons.mpr (Or.inr h))) (hb w))
theorem goodIn_sub {big ws : List Cond} (hm : ∀ w ∈ ws, w ∈ big) (h : ws.all goodWord = true) : GoodIn big ws := fun w hw => ⟨hm w hw, good_of_word (List.all_eq_true.mp h w hw)⟩
/-! ===== END ===== -/

/-! ===== BEGIN printed: names, fields, word lists, decode rows ===== -/
def RX0 : String := "TouchUp$Cell"
def TX0 : u_T := fun k => match k with
  | 0 => ("TouchUp$Cell", "sun", "I", false)
  | 1 => ("TouchUp$Cell", "coat", "I", false)
  | 2 => ("TouchUp$Cell", "sunHad", "I", false)
  | 3 => ("TouchUp$Cell", "air", "I", false)
  | _ => ("TouchUp$Cell", "hidden", "Z", false)
def tyX0 : Nat → FieldType := fun k => match k with
  | 0 => .int
  | 1 => .int
  | 2 => .int
  | 3 => .int
  | _ => .boolean
abbrev wsX00 : List Cond := u_ws RX0 TX0 5
theorem nmX0 : ∀ a, a < 5 → ∀ b, b < 5 → a ≠ b → (TX0 a).2.1 ≠ (TX0 b).2.1 := by decide +kernel
theorem tyX0_ok : ∀ k, k < 5 → parseFieldDescriptor (TX0 k).2.2.1 = some (tyX0 k) := by decide +kernel
abbrev cX0_init : ByteArray := prog_2_method_1_code
def yX0_init : MethodName := ⟨RX0, "<init>", "()V"⟩
abbrev cX0_takeFresh : ByteArray := prog_2_method_2_code
def yX0_takeFresh : MethodName := ⟨RX0, "takeFresh", "(I)V"⟩
abbrev cX0_begin : ByteArray := prog_2_method_3_code
def yX0_begin : MethodName := ⟨RX0, "begin", "(I)V"⟩
abbrev cX0_age : ByteArray := prog_2_method_4_code
def yX0_age : MethodName := ⟨RX0, "age", "(I)V"⟩
def RX1 : String := "TouchUp$Coat"
def TX1 : u_T := fun k => match k with
  | 0 => ("TouchUp$Coat", "bands", "[I", true)
  | _ => ("TouchUp$Coat", "kind", "I", false)
def tyX1 : Nat → FieldType := fun k => match k with
  | 0 => .array .int
  | _ => .int
abbrev wsX10 : List Cond := u_ws RX1 TX1 2
theorem nmX1 : ∀ a, a < 2 → ∀ b, b < 2 → a ≠ b → (TX1 a).2.1 ≠ (TX1 b).2.1 := by decide +kernel
theorem tyX1_ok : ∀ k, k < 2 → parseFieldDescriptor (TX1 k).2.2.1 = some (tyX1 k) := by decide +kernel
abbrev cX1_init : ByteArray := prog_3_method_1_code
def yX1_init : MethodName := ⟨RX1, "<init>", "()V"⟩
abbrev cX1_lossIn : ByteArray := prog_3_method_2_code
def yX1_lossIn : MethodName := ⟨RX1, "lossIn", "(IIII)I"⟩
abbrev cX1_comesBack : ByteArray := prog_3_method_3_code
def yX1_comesBack : MethodName := ⟨RX1, "comesBack", "(IIIIZ)I"⟩
def RX2 : String := "TouchUp$Edges"
def TX2 : u_T := fun k => match k with
  | 0 => ("TouchUp$Edges", "wall", "LTouchUp$Wall;", true)
  | 1 => ("TouchUp$Edges", "looks", "[I", true)
  | _ => ("TouchUp$Edges", "shows", "[I", true)
def tyX2 : Nat → FieldType := fun k => match k with
  | 0 => .object "TouchUp$Wall"
  | 1 => .array .int
  | _ => .array .int
abbrev wsX20 : List Cond := u_ws RX2 TX2 3
theorem nmX2 : ∀ a, a < 3 → ∀ b, b < 3 → a ≠ b → (TX2 a).2.1 ≠ (TX2 b).2.1 := by decide +kernel
theorem tyX2_ok : ∀ k, k < 3 → parseFieldDescriptor (TX2 k).2.2.1 = some (tyX2 k) := by decide +kernel
abbrev cX2_init : ByteArray := prog_4_method_1_code
def yX2_init : MethodName := ⟨RX2, "<init>", "(LTouchUp$Wall;)V"⟩
abbrev cX2_takeAsItIs : ByteArray := prog_4_method_2_code
def yX2_takeAsItIs : MethodName := ⟨RX2, "takeAsItIs", "()V"⟩
abbrev cX2_takeFresh : ByteArray := prog_4_method_3_code
def yX2_takeFresh : MethodName := ⟨RX2, "takeFresh", "(I)V"⟩
abbrev cX2_unpaint : ByteArray := prog_4_method_4_code
def yX2_unpaint : MethodName := ⟨RX2, "unpaint", "()V"⟩
abbrev cX2_paintOne : ByteArray := prog_4_method_5_code
def yX2_paintOne : MethodName := ⟨RX2, "paintOne", "(I)V"⟩
abbrev cX2_countSeen : ByteArray := prog_4_method_6_code
def yX2_countSeen : MethodName := ⟨RX2, "countSeen", "()I"⟩
abbrev cX2_countSeenOf : ByteArray := prog_4_method_7_code
def yX2_countSeenOf : MethodName := ⟨RX2, "countSeenOf", "(I)I"⟩
abbrev cX2_isAnySeen : ByteArray := prog_4_method_8_code
def yX2_isAnySeen : MethodName := ⟨RX2, "isAnySeen", "()Z"⟩
abbrev cX2_isSeenToRight : ByteArray := prog_4_method_9_code
def yX2_isSeenToRight : MethodName := ⟨RX2, "isSeenToRight", "(I)Z"⟩
abbrev cX2_isSeenBelow : ByteArray := prog_4_method_10_code
def yX2_isSeenBelow : MethodName := ⟨RX2, "isSeenBelow", "(I)Z"⟩
abbrev cX2_isSeenBetween : ByteArray := prog_4_method_11_code
def yX2_isSeenBetween : MethodName := ⟨RX2, "isSeenBetween", "(II)Z"⟩
def RX3 : String := "TouchUp$Mixer"
def TX3 : u_T := fun k => match k with
  | 0 => ("TouchUp$Mixer", "wall", "LTouchUp$Wall;", true)
  | 1 => ("TouchUp$Mixer", "drops", "[I", true)
  | 2 => ("TouchUp$Mixer", "mixed", "LTouchUp$Coat;", true)
  | 3 => ("TouchUp$Mixer", "now", "[I", true)
  | 4 => ("TouchUp$Mixer", "bestDrops", "[I", true)
  | 5 => ("TouchUp$Mixer", "leastUnlike", "I", false)
  | _ => ("TouchUp$Mixer", "fewestDrops", "I", false)
def tyX3 : Nat → FieldType := fun k => match k with
  | 0 => .object "TouchUp$Wall"
  | 1 => .array .int
  | 2 => .object "TouchUp$Coat"
  | 3 => .array .int
  | 4 => .array .int
  | 5 => .int
  | _ => .int
abbrev wsX30 : List Cond := u_ws RX3 TX3 7
theorem nmX3 : ∀ a, a < 7 → ∀ b, b < 7 → a ≠ b → (TX3 a).2.1 ≠ (TX3 b).2.1 := by decide +kernel
theorem tyX3_ok : ∀ k, k < 7 → parseFieldDescriptor (TX3 k).2.2.1 = some (tyX3 k) := by decide +kernel
abbrev cX3_init : ByteArray := prog_5_method_1_code
def yX3_init : MethodName := ⟨RX3, "<init>", "(LTouchUp$Wall;)V"⟩
abbrev cX3_pour : ByteArray := prog_5_method_2_code
def yX3_pour : MethodName := ⟨RX3, "pour", "(IIII)V"⟩
abbrev cX3_isMix : ByteArray := prog_5_method_3_code
def yX3_isMix : MethodName := ⟨RX3, "isMix", "()Z"⟩
abbrev cX3_sumOfDrops : ByteArray := prog_5_method_4_code
def yX3_sumOfDrops : MethodName := ⟨RX3, "sumOfDrops", "()I"⟩
abbrev cX3_stir : ByteArray := prog_5_method_5_code
def yX3_stir : MethodName := ⟨RX3, "stir", "()LTouchUp$Coat;"⟩
abbrev cX3_leastInIt : ByteArray := prog_5_method_6_code
def yX3_leastInIt : MethodName := ⟨RX3, "leastInIt", "()I"⟩
abbrev cX3_searchFor : ByteArray := prog_5_method_7_code
def yX3_searchFor : MethodName := ⟨RX3, "searchFor", "(I)V"⟩
abbrev cX3_keepIfBetter : ByteArray := prog_5_method_8_code
def yX3_keepIfBetter : MethodName := ⟨RX3, "keepIfBetter", "()V"⟩
abbrev cX3_farthestApart : ByteArray := prog_5_method_9_code
def yX3_farthestApart : MethodName := ⟨RX3, "farthestApart", "()I"⟩
def RX4 : String := "TouchUp$Patch"
def TX4 : u_T := fun k => match k with
  | 0 => ("TouchUp$Patch", "wall", "LTouchUp$Wall;", true)
  | 1 => ("TouchUp$Patch", "edges", "LTouchUp$Edges;", true)
  | 2 => ("TouchUp$Patch", "size", "I", false)
  | 3 => ("TouchUp$Patch", "first", "I", false)
  | _ => ("TouchUp$Patch", "last", "I", false)
def tyX4 : Nat → FieldType := fun k => match k with
  | 0 => .object "TouchUp$Wall"
  | 1 => .object "TouchUp$Edges"
  | 2 => .int
  | 3 => .int
  | _ => .int
abbrev wsX40 : List Cond := u_ws RX4 TX4 5
theorem nmX4 : ∀ a, a < 5 → ∀ b, b < 5 → a ≠ b → (TX4 a).2.1 ≠ (TX4 b).2.1 := by decide +kernel
theorem tyX4_ok : ∀ k, k < 5 → parseFieldDescriptor (TX4 k).2.2.1 = some (tyX4 k) := by decide +kernel
abbrev cX4_init : ByteArray := prog_6_method_1_code
def yX4_init : MethodName := ⟨RX4, "<init>", "(LTouchUp$Wall;LTouchUp$Edges;)V"⟩
abbrev cX4_searchAround : ByteArray := prog_6_method_2_code
def yX4_searchAround : MethodName := ⟨RX4, "searchAround", "(II)V"⟩
abbrev cX4_keepIfBetter : ByteArray := prog_6_method_3_code
def yX4_keepIfBetter : MethodName := ⟨RX4, "keepIfBetter", "(IIII)V"⟩
def RX5 : String := "TouchUp$Sheet"
def TX5 : u_T := fun k => match k with
  | 0 => ("TouchUp$Sheet", "row", "[I", true)
  | 1 => ("TouchUp$Sheet", "has", "Z", false)
  | 2 => ("TouchUp$Sheet", "sort", "I", false)
  | _ => ("TouchUp$Sheet", "length", "I", false)
def tyX5 : Nat → FieldType := fun k => match k with
  | 0 => .array .int
  | 1 => .boolean
  | 2 => .int
  | _ => .int
abbrev wsX50 : List Cond := u_ws RX5 TX5 4
theorem nmX5 : ∀ a, a < 4 → ∀ b, b < 4 → a ≠ b → (TX5 a).2.1 ≠ (TX5 b).2.1 := by decide +kernel
theorem tyX5_ok : ∀ k, k < 4 → parseFieldDescriptor (TX5 k).2.2.1 = some (tyX5 k) := by decide +kernel
abbrev cX5_init : ByteArray := prog_7_method_1_code
def yX5_init : MethodName := ⟨RX5, "<init>", "()V"⟩
abbrev cX5_begin : ByteArray := prog_7_method_2_code
def yX5_begin : MethodName := ⟨RX5, "begin", "(II)V"⟩
abbrev cX5_cut : ByteArray := prog_7_method_3_code
def yX5_cut : MethodName := ⟨RX5, "cut", "(I)I"⟩
abbrev cX5_reaches : ByteArray := prog_7_method_4_code
def yX5_reaches : MethodName := ⟨RX5, "reaches", "(II)Z"⟩
abbrev cX5_faultAs : ByteArray := prog_7_method_5_code
def yX5_faultAs : MethodName := ⟨RX5, "faultAs", "(I)I"⟩
abbrev cX5_faultOfCells : ByteArray := prog_7_method_6_code
def yX5_faultOfCells : MethodName := ⟨RX5, "faultOfCells", "(III)I"⟩
abbrev cX5_firstWrongCode : ByteArray := prog_7_method_7_code
def yX5_firstWrongCode : MethodName := ⟨RX5, "firstWrongCode", "(II)I"⟩
abbrev cX5_firstWrongInRows : ByteArray := prog_7_method_8_code
def yX5_firstWrongInRows : MethodName := ⟨RX5, "firstWrongInRows", "(IIII)I"⟩
abbrev cX5_fits : ByteArray := prog_7_method_9_code
def yX5_fits : MethodName := ⟨RX5, "fits", "(II)Z"⟩
def RX6 : String := "TouchUp$Wall"
def TX6 : u_T := fun k => match k with
  | 0 => ("TouchUp$Wall", "cells", "[LTouchUp$Cell;", true)
  | 1 => ("TouchUp$Wall", "coats", "[LTouchUp$Coat;", true)
  | 2 => ("TouchUp$Wall", "weights", "[I", true)
  | 3 => ("TouchUp$Wall", "high", "I", false)
  | 4 => ("TouchUp$Wall", "wide", "I", false)
  | 5 => ("TouchUp$Wall", "count", "I", false)
  | 6 => ("TouchUp$Wall", "coatCount", "I", false)
  | 7 => ("TouchUp$Wall", "lightCount", "I", false)
  | 8 => ("TouchUp$Wall", "year", "I", false)
  | 9 => ("TouchUp$Wall", "smoke", "I", false)
  | _ => ("TouchUp$Wall", "line", "I", false)
def tyX6 : Nat → FieldType := fun k => match k with
  | 0 => .array (.object "TouchUp$Cell")
  | 1 => .array (.object "TouchUp$Coat")
  | 2 => .array .int
  | 3 => .int
  | 4 => .int
  | 5 => .int
  | 6 => .int
  | 7 => .int
  | 8 => .int
  | 9 => .int
  | _ => .int
abbrev wsX60 : List Cond := u_ws RX6 TX6 11
theorem nmX6 : ∀ a, a < 11 → ∀ b, b < 11 → a ≠ b → (TX6 a).2.1 ≠ (TX6 b).2.1 := by decide +kernel
theorem tyX6_ok : ∀ k, k < 11 → parseFieldDescriptor (TX6 k).2.2.1 = some (tyX6 k) := by decide +kernel
abbrev cX6_init : ByteArray := prog_8_method_1_code
def yX6_init : MethodName := ⟨RX6, "<init>", "()V"⟩
abbrev cX6_makeAnew : ByteArray := prog_8_method_2_code
def yX6_makeAnew : MethodName := ⟨RX6, "makeAnew", "(LTouchUp$Sheet;I)V"⟩
abbrev cX6_stands : ByteArray := prog_8_method_3_code
def yX6_stands : MethodName := ⟨RX6, "stands", "()Z"⟩
abbrev cX6_columnOf : ByteArray := prog_8_method_4_code
def yX6_columnOf : MethodName := ⟨RX6, "columnOf", "(I)I"⟩
abbrev cX6_rowOf : ByteArray := prog_8_method_5_code
def yX6_rowOf : MethodName := ⟨RX6, "rowOf", "(I)I"⟩
abbrev cX6_hasCell : ByteArray := prog_8_method_6_code
def yX6_hasCell : MethodName := ⟨RX6, "hasCell", "(I)Z"⟩
abbrev cX6_hasCoat : ByteArray := prog_8_method_7_code
def yX6_hasCoat : MethodName := ⟨RX6, "hasCoat", "(I)Z"⟩
abbrev cX6_hasLight : ByteArray := prog_8_method_8_code
def yX6_hasLight : MethodName := ⟨RX6, "hasLight", "(I)Z"⟩
abbrev cX6_age : ByteArray := prog_8_method_9_code
def yX6_age : MethodName := ⟨RX6, "age", "(I)V"⟩
abbrev cX6_addCoat : ByteArray := prog_8_method_10_code
def yX6_addCoat : MethodName := ⟨RX6, "addCoat", "(IIII)I"⟩
abbrev cX6_addLight : ByteArray := prog_8_method_11_code
def yX6_addLight : MethodName := ⟨RX6, "addLight", "(III)I"⟩
abbrev cX6_lookOfCoat : ByteArray := prog_8_method_12_code
def yX6_lookOfCoat : MethodName := ⟨RX6, "lookOfCoat", "(LTouchUp$Coat;IIIZ)I"⟩
abbrev cX6_lookOfCell : ByteArray := prog_8_method_13_code
def yX6_lookOfCell : MethodName := ⟨RX6, "lookOfCell", "(IIZ)I"⟩
abbrev cX6_views : ByteArray := prog_8_method_14_code
def yX6_views : MethodName := ⟨RX6, "views", "()I"⟩
abbrev cX6_areTraitors : ByteArray := prog_8_method_15_code
def yX6_areTraitors : MethodName := ⟨RX6, "areTraitors", "(IIII)Z"⟩
abbrev cX6_apartFresh : ByteArray := prog_8_method_16_code
def yX6_apartFresh : MethodName := ⟨RX6, "apartFresh", "(III)I"⟩
def RX7 : String := "TouchUp"
def TX7 : u_T := fun k => match k with
  | 0 => ("TouchUp", "sheets", "[LTouchUp$Sheet;", true)
  | 1 => ("TouchUp", "wall", "LTouchUp$Wall;", true)
  | 2 => ("TouchUp", "edges", "LTouchUp$Edges;", true)
  | 3 => ("TouchUp", "mixer", "LTouchUp$Mixer;", true)
  | 4 => ("TouchUp", "patch", "LTouchUp$Patch;", true)
  | 5 => ("TouchUp", "marks", "I", false)
  | _ => ("TouchUp", "latestFault", "I", false)
def tyX7 : Nat → FieldType := fun k => match k with
  | 0 => .array (.object "TouchUp$Sheet")
  | 1 => .object "TouchUp$Wall"
  | 2 => .object "TouchUp$Edges"
  | 3 => .object "TouchUp$Mixer"
  | 4 => .object "TouchUp$Patch"
  | 5 => .int
  | _ => .int
abbrev wsX70 : List Cond := u_ws RX7 TX7 7
theorem nmX7 : ∀ a, a < 7 → ∀ b, b < 7 → a ≠ b → (TX7 a).2.1 ≠ (TX7 b).2.1 := by decide +kernel
theorem tyX7_ok : ∀ k, k < 7 → parseFieldDescriptor (TX7 k).2.2.1 = some (tyX7 k) := by decide +kernel
abbrev cX7_init : ByteArray := prog_1_method_1_code
def yX7_init : MethodName := ⟨RX7, "<init>", "()V"⟩
abbrev cX7_wall : ByteArray := prog_1_method_2_code
def yX7_wall : MethodName := ⟨RX7, "wall", "(IIII)I"⟩
abbrev cX7_ofCell : ByteArray := prog_1_method_3_code
def yX7_ofCell : MethodName := ⟨RX7, "ofCell", "(II)I"⟩
abbrev cX7_set : ByteArray := prog_1_method_4_code
def yX7_set : MethodName := ⟨RX7, "set", "(II)I"⟩
abbrev cX7_years : ByteArray := prog_1_method_5_code
def yX7_years : MethodName := ⟨RX7, "years", "(I)I"⟩
abbrev cX7_hang : ByteArray := prog_1_method_6_code
def yX7_hang : MethodName := ⟨RX7, "hang", "(IZ)I"⟩
abbrev cX7_coat : ByteArray := prog_1_method_7_code
def yX7_coat : MethodName := ⟨RX7, "coat", "(IIII)I"⟩
abbrev cX7_ofCoat : ByteArray := prog_1_method_8_code
def yX7_ofCoat : MethodName := ⟨RX7, "ofCoat", "(II)I"⟩
abbrev cX7_paint : ByteArray := prog_1_method_9_code
def yX7_paint : MethodName := ⟨RX7, "paint", "(II)I"⟩
abbrev cX7_back : ByteArray := prog_1_method_10_code
def yX7_back : MethodName := ⟨RX7, "back", "(IIZ)I"⟩
abbrev cX7_light : ByteArray := prog_1_method_11_code
def yX7_light : MethodName := ⟨RX7, "light", "(III)I"⟩
abbrev cX7_look : ByteArray := prog_1_method_12_code
def yX7_look : MethodName := ⟨RX7, "look", "(IIZ)I"⟩
abbrev cX7_unlike : ByteArray := prog_1_method_13_code
def yX7_unlike : MethodName := ⟨RX7, "unlike", "(IIIZ)I"⟩
abbrev cX7_seen : ByteArray := prog_1_method_14_code
def yX7_seen : MethodName := ⟨RX7, "seen", "(I)I"⟩
abbrev cX7_mix : ByteArray := prog_1_method_15_code
def yX7_mix : MethodName := ⟨RX7, "mix", "(IIII)I"⟩
abbrev cX7_best : ByteArray := prog_1_method_16_code
def yX7_best : MethodName := ⟨RX7, "best", "(II)I"⟩
abbrev cX7_traitors : ByteArray := prog_1_method_17_code
def yX7_traitors : MethodName := ⟨RX7, "traitors", "(III)I"⟩
abbrev cX7_patch : ByteArray := prog_1_method_18_code
def yX7_patch : MethodName := ⟨RX7, "patch", "(III)I"⟩
abbrev cX7_leave : ByteArray := prog_1_method_19_code
def yX7_leave : MethodName := ⟨RX7, "leave", "(II)I"⟩
abbrev cX7_on : ByteArray := prog_1_method_20_code
def yX7_on : MethodName := ⟨RX7, "on", "(III)I"⟩
abbrev cX7_hide : ByteArray := prog_1_method_21_code
def yX7_hide : MethodName := ⟨RX7, "hide", "(I)I"⟩
abbrev cX7_hung : ByteArray := prog_1_method_22_code
def yX7_hung : MethodName := ⟨RX7, "hung", "(IIIIII)I"⟩
abbrev cX7_old : ByteArray := prog_1_method_23_code
def yX7_old : MethodName := ⟨RX7, "old", "(IIIII)J"⟩
abbrev cX7_sheet : ByteArray := prog_1_method_24_code
def yX7_sheet : MethodName := ⟨RX7, "sheet", "(III)I"⟩
abbrev cX7_lose : ByteArray := prog_1_method_25_code
def yX7_lose : MethodName := ⟨RX7, "lose", "(I)I"⟩
abbrev cX7_put : ByteArray := prog_1_method_26_code
def yX7_put : MethodName := ⟨RX7, "put", "(III)I"⟩
abbrev cX7_cell : ByteArray := prog_1_method_27_code
def yX7_cell : MethodName := ⟨RX7, "cell", "(III)J"⟩
abbrev cX7_copy : ByteArray := prog_1_method_28_code
def yX7_copy : MethodName := ⟨RX7, "copy", "(IIIII)I"⟩
abbrev cX7_tell : ByteArray := prog_1_method_29_code
def yX7_tell : MethodName := ⟨RX7, "tell", "(I)I"⟩
abbrev cX7_name : ByteArray := prog_1_method_30_code
def yX7_name : MethodName := ⟨RX7, "name", "(I)I"⟩
abbrev cX7_as : ByteArray := prog_1_method_31_code
def yX7_as : MethodName := ⟨RX7, "as", "(II)I"⟩
abbrev cX7_trace : ByteArray := prog_1_method_32_code
def yX7_trace : MethodName := ⟨RX7, "trace", "()I"⟩
abbrev cX7_fault : ByteArray := prog_1_method_33_code
def yX7_fault : MethodName := ⟨RX7, "fault", "()I"⟩
abbrev cX7_many : ByteArray := prog_1_method_34_code
def yX7_many : MethodName := ⟨RX7, "many", "(I)I"⟩
abbrev cX7_isWithin : ByteArray := prog_1_method_35_code
def yX7_isWithin : MethodName := ⟨RX7, "isWithin", "(III)Z"⟩
abbrev cX7_areWithin : ByteArray := prog_1_method_36_code
def yX7_areWithin : MethodName := ⟨RX7, "areWithin", "(IIII)Z"⟩
abbrev cX7_isSheet : ByteArray := prog_1_method_37_code
def yX7_isSheet : MethodName := ⟨RX7, "isSheet", "(I)Z"⟩
abbrev cX7_isSort : ByteArray := prog_1_method_38_code
def yX7_isSort : MethodName := ⟨RX7, "isSort", "(I)Z"⟩
abbrev cX7_isKind : ByteArray := prog_1_method_39_code
def yX7_isKind : MethodName := ⟨RX7, "isKind", "(I)Z"⟩
abbrev cX7_failed : ByteArray := prog_1_method_40_code
def yX7_failed : MethodName := ⟨RX7, "failed", "(I)I"⟩
abbrev cX7_isAsTold : ByteArray := prog_1_method_41_code
def yX7_isAsTold : MethodName := ⟨RX7, "isAsTold", "(IIIII)Z"⟩
abbrev cX7_mark : ByteArray := prog_1_method_42_code
def yX7_mark : MethodName := ⟨RX7, "mark", "(I)V"⟩
abbrev cX7_tellPlain : ByteArray := prog_1_method_43_code
def yX7_tellPlain : MethodName := ⟨RX7, "tellPlain", "(LTouchUp$Coat;)I"⟩
abbrev cX7_tellShiny : ByteArray := prog_1_method_44_code
def yX7_tellShiny : MethodName := ⟨RX7, "tellShiny", "(LTouchUp$Coat;)I"⟩
abbrev cX7_tellFast : ByteArray := prog_1_method_45_code
def yX7_tellFast : MethodName := ⟨RX7, "tellFast", "(LTouchUp$Coat;)I"⟩
def RX8 : String := "TouchUpModel"
def TX8 : u_T := fun k => match k with
  | 0 => ("TouchUpModel", "fault", "I", false)
  | 1 => ("TouchUpModel", "trace", "I", false)
  | 2 => ("TouchUpModel", "sorts", "[I", true)
  | 3 => ("TouchUpModel", "sheetLong", "[I", true)
  | 4 => ("TouchUpModel", "cells", "[I", true)
  | 5 => ("TouchUpModel", "high", "I", false)
  | 6 => ("TouchUpModel", "wide", "I", false)
  | 7 => ("TouchUpModel", "year", "I", false)
  | 8 => ("TouchUpModel", "smoke", "I", false)
  | 9 => ("TouchUpModel", "line", "I", false)
  | 10 => ("TouchUpModel", "sun", "[I", true)
  | 11 => ("TouchUpModel", "coatOf", "[I", true)
  | 12 => ("TouchUpModel", "had", "[I", true)
  | 13 => ("TouchUpModel", "air", "[I", true)
  | 14 => ("TouchUpModel", "isHung", "[Z", true)
  | 15 => ("TouchUpModel", "at", "I", false)
  | 16 => ("TouchUpModel", "readHigh", "I", false)
  | 17 => ("TouchUpModel", "readWide", "I", false)
  | 18 => ("TouchUpModel", "readSun", "[I", true)
  | 19 => ("TouchUpModel", "coats", "I", false)
  | 20 => ("TouchUpModel", "kind", "[I", true)
  | 21 => ("TouchUpModel", "bands", "[I", true)
  | 22 => ("TouchUpModel", "lights", "I", false)
  | 23 => ("TouchUpModel", "weights", "[I", true)
  | 24 => ("TouchUpModel", "drops", "[I", true)
  | 25 => ("TouchUpModel", "mixKind", "I", false)
  | 26 => ("TouchUpModel", "mixBands", "[I", true)
  | 27 => ("TouchUpModel", "bestUnlike", "I", false)
  | 28 => ("TouchUpModel", "bestDrops", "[I", true)
  | 29 => ("TouchUpModel", "keptCoat", "[I", true)
  | 30 => ("TouchUpModel", "keptHad", "[I", true)
  | 31 => ("TouchUpModel", "keptAir", "[I", true)
  | 32 => ("TouchUpModel", "patchMany", "I", false)
  | 33 => ("TouchUpModel", "patchFirst", "I", false)
  | _ => ("TouchUpModel", "patchLast", "I", false)
def tyX8 : Nat → FieldType := fun k => match k with
  | 0 => .int
  | 1 => .int
  | 2 => .array .int
  | 3 => .array .int
  | 4 => .array .int
  | 5 => .int
  | 6 => .int
  | 7 => .int
  | 8 => .int
  | 9 => .int
  | 10 => .array .int
  | 11 => .array .int
  | 12 => .array .int
  | 13 => .array .int
  | 14 => .array .boolean
  | 15 => .int
  | 16 => .int
  | 17 => .int
  | 18 => .array .int
  | 19 => .int
  | 20 => .array .int
  | 21 => .array .int
  | 22 => .int
  | 23 => .array .int
  | 24 => .array .int
  | 25 => .int
  | 26 => .array .int
  | 27 => .int
  | 28 => .array .int
  | 29 => .array .int
  | 30 => .array .int
  | 31 => .array .int
  | 32 => .int
  | 33 => .int
  | _ => .int
abbrev wsX80 : List Cond := u_ws RX8 TX8 35
theorem nmX8 : ∀ a, a < 35 → ∀ b, b < 35 → a ≠ b → (TX8 a).2.1 ≠ (TX8 b).2.1 := by decide +kernel
theorem tyX8_ok : ∀ k, k < 35 → parseFieldDescriptor (TX8 k).2.2.1 = some (tyX8 k) := by decide +kernel
abbrev cX8_init : ByteArray := prog_10_method_1_code
def yX8_init : MethodName := ⟨RX8, "<init>", "()V"⟩
abbrev cX8_fails : ByteArray := prog_10_method_3_code
def yX8_fails : MethodName := ⟨RX8, "fails", "(I)I"⟩
abbrev cX8_lost : ByteArray := prog_10_method_4_code
def yX8_lost : MethodName := ⟨RX8, "lost", "(I)J"⟩
abbrev cX8_within : ByteArray := prog_10_method_5_code
def yX8_within : MethodName := ⟨RX8, "within", "(III)Z"⟩
abbrev cX8_isSheet : ByteArray := prog_10_method_6_code
def yX8_isSheet : MethodName := ⟨RX8, "isSheet", "(I)Z"⟩
abbrev cX8_isSort : ByteArray := prog_10_method_7_code
def yX8_isSort : MethodName := ⟨RX8, "isSort", "(I)Z"⟩
abbrev cX8_against : ByteArray := prog_10_method_8_code
def yX8_against : MethodName := ⟨RX8, "against", "(IIII)I"⟩
abbrev cX8_all : ByteArray := prog_10_method_9_code
def yX8_all : MethodName := ⟨RX8, "all", "()I"⟩
abbrev cX8_isCell : ByteArray := prog_10_method_10_code
def yX8_isCell : MethodName := ⟨RX8, "isCell", "(I)Z"⟩
abbrev cX8_digit : ByteArray := prog_10_method_11_code
def yX8_digit : MethodName := ⟨RX8, "digit", "(III)I"⟩
abbrev cX8_wall : ByteArray := prog_10_method_12_code
def yX8_wall : MethodName := ⟨RX8, "wall", "(IIII)I"⟩
abbrev cX8_readWall : ByteArray := prog_10_method_13_code
def yX8_readWall : MethodName := ⟨RX8, "readWall", "(I)Z"⟩
abbrev cX8_ofCell : ByteArray := prog_10_method_14_code
def yX8_ofCell : MethodName := ⟨RX8, "ofCell", "(II)I"⟩
abbrev cX8_set : ByteArray := prog_10_method_15_code
def yX8_set : MethodName := ⟨RX8, "set", "(II)I"⟩
abbrev cX8_years : ByteArray := prog_10_method_16_code
def yX8_years : MethodName := ⟨RX8, "years", "(I)I"⟩
abbrev cX8_hang : ByteArray := prog_10_method_17_code
def yX8_hang : MethodName := ⟨RX8, "hang", "(IZ)I"⟩
abbrev cX8_isCoat : ByteArray := prog_10_method_18_code
def yX8_isCoat : MethodName := ⟨RX8, "isCoat", "(I)Z"⟩
abbrev cX8_isLight : ByteArray := prog_10_method_19_code
def yX8_isLight : MethodName := ⟨RX8, "isLight", "(I)Z"⟩
abbrev cX8_addCoat : ByteArray := prog_10_method_20_code
def yX8_addCoat : MethodName := ⟨RX8, "addCoat", "(IIII)I"⟩
abbrev cX8_coat : ByteArray := prog_10_method_21_code
def yX8_coat : MethodName := ⟨RX8, "coat", "(IIII)I"⟩
abbrev cX8_ofCoat : ByteArray := prog_10_method_22_code
def yX8_ofCoat : MethodName := ⟨RX8, "ofCoat", "(II)I"⟩
abbrev cX8_paint : ByteArray := prog_10_method_23_code
def yX8_paint : MethodName := ⟨RX8, "paint", "(II)I"⟩
abbrev cX8_comes : ByteArray := prog_10_method_24_code
def yX8_comes : MethodName := ⟨RX8, "comes", "(IIIIIZ)I"⟩
abbrev cX8_comesOf : ByteArray := prog_10_method_25_code
def yX8_comesOf : MethodName := ⟨RX8, "comesOf", "(IIIIZ)I"⟩
abbrev cX8_back : ByteArray := prog_10_method_26_code
def yX8_back : MethodName := ⟨RX8, "back", "(IIZ)I"⟩
abbrev cX8_light : ByteArray := prog_10_method_27_code
def yX8_light : MethodName := ⟨RX8, "light", "(III)I"⟩
abbrev cX8_lookOf : ByteArray := prog_10_method_28_code
def yX8_lookOf : MethodName := ⟨RX8, "lookOf", "(IIIIZ)I"⟩
abbrev cX8_lookNow : ByteArray := prog_10_method_29_code
def yX8_lookNow : MethodName := ⟨RX8, "lookNow", "(IIZ)I"⟩
abbrev cX8_look : ByteArray := prog_10_method_30_code
def yX8_look : MethodName := ⟨RX8, "look", "(IIZ)I"⟩
abbrev cX8_size : ByteArray := prog_10_method_31_code
def yX8_size : MethodName := ⟨RX8, "size", "(I)I"⟩
abbrev cX8_unlike : ByteArray := prog_10_method_32_code
def yX8_unlike : MethodName := ⟨RX8, "unlike", "(IIIZ)I"⟩
abbrev cX8_isEdge : ByteArray := prog_10_method_33_code
def yX8_isEdge : MethodName := ⟨RX8, "isEdge", "(II)Z"⟩
abbrev cX8_seenOf : ByteArray := prog_10_method_34_code
def yX8_seenOf : MethodName := ⟨RX8, "seenOf", "(I)I"⟩
abbrev cX8_seen : ByteArray := prog_10_method_35_code
def yX8_seen : MethodName := ⟨RX8, "seen", "(I)I"⟩
abbrev cX8_layMix : ByteArray := prog_10_method_36_code
def yX8_layMix : MethodName := ⟨RX8, "layMix", "()V"⟩
abbrev cX8_areDrops : ByteArray := prog_10_method_37_code
def yX8_areDrops : MethodName := ⟨RX8, "areDrops", "()Z"⟩
abbrev cX8_mix : ByteArray := prog_10_method_38_code
def yX8_mix : MethodName := ⟨RX8, "mix", "(IIII)I"⟩
abbrev cX8_mixUnlike : ByteArray := prog_10_method_39_code
def yX8_mixUnlike : MethodName := ⟨RX8, "mixUnlike", "(I)I"⟩
abbrev cX8_findBest : ByteArray := prog_10_method_40_code
def yX8_findBest : MethodName := ⟨RX8, "findBest", "(I)V"⟩
abbrev cX8_best : ByteArray := prog_10_method_41_code
def yX8_best : MethodName := ⟨RX8, "best", "(II)I"⟩
abbrev cX8_freshUnlike : ByteArray := prog_10_method_42_code
def yX8_freshUnlike : MethodName := ⟨RX8, "freshUnlike", "(III)I"⟩
abbrev cX8_traitors : ByteArray := prog_10_method_43_code
def yX8_traitors : MethodName := ⟨RX8, "traitors", "(III)I"⟩
abbrev cX8_keepAll : ByteArray := prog_10_method_44_code
def yX8_keepAll : MethodName := ⟨RX8, "keepAll", "()V"⟩
abbrev cX8_takeAll : ByteArray := prog_10_method_45_code
def yX8_takeAll : MethodName := ⟨RX8, "takeAll", "()V"⟩
abbrev cX8_seenWith : ByteArray := prog_10_method_46_code
def yX8_seenWith : MethodName := ⟨RX8, "seenWith", "(III)I"⟩
abbrev cX8_offer : ByteArray := prog_10_method_47_code
def yX8_offer : MethodName := ⟨RX8, "offer", "(III)V"⟩
abbrev cX8_findPatch : ByteArray := prog_10_method_48_code
def yX8_findPatch : MethodName := ⟨RX8, "findPatch", "(II)V"⟩
abbrev cX8_patch : ByteArray := prog_10_method_49_code
def yX8_patch : MethodName := ⟨RX8, "patch", "(III)I"⟩
abbrev cX8_leave : ByteArray := prog_10_method_50_code
def yX8_leave : MethodName := ⟨RX8, "leave", "(II)I"⟩
abbrev cX8_on : ByteArray := prog_10_method_51_code
def yX8_on : MethodName := ⟨RX8, "on", "(III)I"⟩
abbrev cX8_hide : ByteArray := prog_10_method_52_code
def yX8_hide : MethodName := ⟨RX8, "hide", "(I)I"⟩
abbrev cX8_isSo : ByteArray := prog_10_method_53_code
def yX8_isSo : MethodName := ⟨RX8, "isSo", "(IIII)Z"⟩
abbrev cX8_hung : ByteArray := prog_10_method_54_code
def yX8_hung : MethodName := ⟨RX8, "hung", "(IIIIII)I"⟩
abbrev cX8_old : ByteArray := prog_10_method_55_code
def yX8_old : MethodName := ⟨RX8, "old", "(IIIII)J"⟩
abbrev cX8_sheet : ByteArray := prog_10_method_56_code
def yX8_sheet : MethodName := ⟨RX8, "sheet", "(III)I"⟩
abbrev cX8_lose : ByteArray := prog_10_method_57_code
def yX8_lose : MethodName := ⟨RX8, "lose", "(I)I"⟩
abbrev cX8_put : ByteArray := prog_10_method_58_code
def yX8_put : MethodName := ⟨RX8, "put", "(III)I"⟩
abbrev cX8_cell : ByteArray := prog_10_method_59_code
def yX8_cell : MethodName := ⟨RX8, "cell", "(III)J"⟩
abbrev cX8_copy : ByteArray := prog_10_method_60_code
def yX8_copy : MethodName := ⟨RX8, "copy", "(IIIII)I"⟩
abbrev cX8_begins : ByteArray := prog_10_method_61_code
def yX8_begins : MethodName := ⟨RX8, "begins", "(I)V"⟩
abbrev cX8_tell : ByteArray := prog_10_method_62_code
def yX8_tell : MethodName := ⟨RX8, "tell", "(I)I"⟩
abbrev cX8_name : ByteArray := prog_10_method_63_code
def yX8_name : MethodName := ⟨RX8, "name", "(I)I"⟩
abbrev cX8_as : ByteArray := prog_10_method_64_code
def yX8_as : MethodName := ⟨RX8, "as", "(II)I"⟩
abbrev cX8_trace : ByteArray := prog_10_method_65_code
def yX8_trace : MethodName := ⟨RX8, "trace", "()I"⟩
abbrev cX8_fault : ByteArray := prog_10_method_66_code
def yX8_fault : MethodName := ⟨RX8, "fault", "()I"⟩
abbrev cX8_many : ByteArray := prog_10_method_67_code
def yX8_many : MethodName := ⟨RX8, "many", "(I)I"⟩
def RJ9 : String := "java/lang/Math"
def TJ9 : u_T := fun k => match k with
  | _ => ("", "", "", false)
def tyJ9 : Nat → FieldType := fun k => match k with
  | _ => .int
abbrev wsJ90 : List Cond := u_ws RJ9 TJ9 0
theorem nmJ9 : ∀ a, a < 0 → ∀ b, b < 0 → a ≠ b → (TJ9 a).2.1 ≠ (TJ9 b).2.1 := by decide +kernel
theorem tyJ9_ok : ∀ k, k < 0 → parseFieldDescriptor (TJ9 k).2.2.1 = some (tyJ9 k) := by decide +kernel
abbrev cJ9_abs_0f7a4 : ByteArray := prog_11_method_59_code
def yJ9_abs_0f7a4 : MethodName := ⟨RJ9, "abs", "(I)I"⟩
abbrev cJ9_max_7cf53 : ByteArray := prog_11_method_65_code
def yJ9_max_7cf53 : MethodName := ⟨RJ9, "max", "(II)I"⟩
def RJ10 : String := "java/lang/System"
def TJ10 : u_T := fun k => match k with
  | _ => ("", "", "", false)
def tyJ10 : Nat → FieldType := fun k => match k with
  | _ => .int
abbrev wsJ100 : List Cond := u_ws RJ10 TJ10 0
theorem nmJ10 : ∀ a, a < 0 → ∀ b, b < 0 → a ≠ b → (TJ10 a).2.1 ≠ (TJ10 b).2.1 := by decide +kernel
theorem tyJ10_ok : ∀ k, k < 0 → parseFieldDescriptor (TJ10 k).2.2.1 = some (tyJ10 k) := by decide +kernel
def RJ7 : String := "java/util/Arrays"
def TJ7 : u_T := fun k => match k with
  | _ => ("", "", "", false)
def tyJ7 : Nat → FieldType := fun k => match k with
  | _ => .int
abbrev wsJ70 : List Cond := u_ws RJ7 TJ7 0
theorem nmJ7 : ∀ a, a < 0 → ∀ b, b < 0 → a ≠ b → (TJ7 a).2.1 ≠ (TJ7 b).2.1 := by decide +kernel
theorem tyJ7_ok : ∀ k, k < 0 → parseFieldDescriptor (TJ7 k).2.2.1 = some (tyJ7 k) := by decide +kernel
abbrev cJ7_fill_53178 : ByteArray := prog_13_method_103_code
def yJ7_fill_53178 : MethodName := ⟨RJ7, "fill", "([II)V"⟩
def RL : String := "TouchUpLaw"
abbrev cL_law : ByteArray := code
def yL_law : MethodName := ⟨RL, "law", "([I)Z"⟩
def wsX0_init : List Cond := .code yX0_init cX0_init 1 none :: ([.methodLink RX0 1 objectInit, .instanceMethod objectInit, .code objectInit ⟨#[0xb1]⟩ 1 none])
def wsX0_takeFresh : List Cond := .code yX0_takeFresh cX0_takeFresh 2 none :: ([.fieldLink RX0 7 "TouchUp$Cell" "coat" "I", .fieldLink RX0 13 "TouchUp$Cell" "sunHad" "I", .fieldLink RX0 16 "TouchUp$Cell" "air" "I"] ++ wsX00)
def wsX0_begin : List Cond := .code yX0_begin cX0_begin 2 none :: ([.fieldLink RX0 19 "TouchUp$Cell" "sun" "I", .fieldLink RX0 22 "TouchUp$Cell" "hidden" "Z", .methodLink RX0 26 yX0_takeFresh, .instanceMethod yX0_takeFresh, .selects RX0 yX0_takeFresh yX0_takeFresh, .initialized RX0, .code yX0_takeFresh cX0_takeFresh 2 none, .fieldLink RX0 7 "TouchUp$Cell" "coat" "I", .fieldLink RX0 13 "TouchUp$Cell" "sunHad" "I", .fieldLink RX0 16 "TouchUp$Cell" "air" "I"] ++ wsX00)
def wsX0_age : List Cond := .code yX0_age cX0_age 2 none :: ([.fieldLink RX0 22 "TouchUp$Cell" "hidden" "Z", .fieldLink RX0 13 "TouchUp$Cell" "sunHad" "I", .fieldLink RX0 19 "TouchUp$Cell" "sun" "I", .fieldLink RX0 16 "TouchUp$Cell" "air" "I"] ++ wsX00)
def wsX1_init : List Cond := .code yX1_init cX1_init 1 none :: ([.methodLink RX1 3 objectInit, .instanceMethod objectInit, .code objectInit ⟨#[0xb1]⟩ 1 none, .arrayClass .int, .fieldLink RX1 9 "TouchUp$Coat" "bands" "[I"] ++ wsX10)
def wsX1_lossIn : List Cond := .code yX1_lossIn cX1_lossIn 6 (some .int) :: ([.fieldLink RX1 15 "TouchUp$Coat" "kind" "I"] ++ wsX10)
def wsX1_comesBack : List Cond := .code yX1_comesBack cX1_comesBack 7 (some .int) :: ([.fieldLink RX1 9 "TouchUp$Coat" "bands" "[I", .methodLink RX1 23 Lib.Math.max.name, .static Lib.Math.max.name, .initialized "java/lang/Math", .code Lib.Math.max.name Lib.Math.max.code 2 (some .int), .fieldLink RX1 15 "TouchUp$Coat" "kind" "I", .methodLink RX1 19 yX1_lossIn, .instanceMethod yX1_lossIn, .selects RX1 yX1_lossIn yX1_lossIn, .initialized RX1, .code yX1_lossIn cX1_lossIn 6 (some .int)] ++ wsX10)
def wsX2_init : List Cond := .code yX2_init cX2_init 2 none :: ([.methodLink RX2 3 objectInit, .instanceMethod objectInit, .code objectInit ⟨#[0xb1]⟩ 1 none, .arrayClass .int, .fieldLink RX2 9 "TouchUp$Edges" "looks" "[I", .fieldLink RX2 15 "TouchUp$Edges" "shows" "[I", .fieldLink RX2 18 "TouchUp$Edges" "wall" "LTouchUp$Wall;"] ++ wsX20)
def wsX6_views : List Cond := .code yX6_views cX6_views 1 (some .int) :: ([.fieldLink RX6 57 "TouchUp$Wall" "lightCount" "I"] ++ wsX60)
def wsX6_lookOfCoat : List Cond := .code yX6_lookOfCoat cX6_lookOfCoat 8 (some .int) :: ([.fieldLink RX6 51 "TouchUp$Wall" "smoke" "I", .fieldLink RX6 23 "TouchUp$Wall" "weights" "[I", .methodLink RX6 76 yX1_comesBack, .instanceMethod yX1_comesBack, .selects RX1 yX1_comesBack yX1_comesBack, .initialized RX1, .code yX1_comesBack cX1_comesBack 7 (some .int), .fieldLink RX1 9 "TouchUp$Coat" "bands" "[I", .methodLink RX1 23 Lib.Math.max.name, .static Lib.Math.max.name, .initialized "java/lang/Math", .code Lib.Math.max.name Lib.Math.max.code 2 (some .int), .fieldLink RX1 15 "TouchUp$Coat" "kind" "I", .methodLink RX1 19 yX1_lossIn, .instanceMethod yX1_lossIn, .selects RX1 yX1_lossIn yX1_lossIn, .code yX1_lossIn cX1_lossIn 6 (some .int)] ++ wsX60 ++ wsX10)
def wsX6_lookOfCell_r1 : List Cond := [Cond.fieldLink RX6 11 "TouchUp$Wall" "cells" "[LTouchUp$Cell;", Cond.fieldLink RX6 19 "TouchUp$Wall" "coats" "[LTouchUp$Coat;", Cond.fieldLink RX6 80 "TouchUp$Cell" "coat" "I", Cond.fieldLink RX6 83 "TouchUp$Cell" "sunHad" "I", Cond.fieldLink RX6 86 "TouchUp$Cell" "air" "I", Cond.methodLink RX6 89 yX6_lookOfCoat, Cond.instanceMethod yX6_lookOfCoat, Cond.selects RX6 yX6_lookOfCoat yX6_lookOfCoat, Cond.initialized RX6, Cond.code yX6_lookOfCoat cX6_lookOfCoat 8 (some .int), Cond.fieldLink RX6 51 "TouchUp$Wall" "smoke" "I", Cond.fieldLink RX6 23 "TouchUp$Wall" "weights" "[I", Cond.methodLink RX6 76 yX1_comesBack, Cond.instanceMethod yX1_comesBack, Cond.selects RX1 yX1_comesBack yX1_comesBack, Cond.initialized RX1, Cond.code yX1_comesBack cX1_comesBack 7 (some .int), Cond.fieldLink RX1 9 "TouchUp$Coat" "bands" "[I", Cond.methodLink RX1 23 Lib.Math.max.name, Cond.static Lib.Math.max.name, Cond.initialized "java/lang/Math", Cond.code Lib.Math.max.name Lib.Math.max.code 2 (some .int), Cond.fieldLink RX1 15 "TouchUp$Coat" "kind" "I", Cond.methodLink RX1 19 yX1_lossIn]
def wsX6_lookOfCell_r2 : List Cond := [Cond.instanceMethod yX1_lossIn, Cond.selects RX1 yX1_lossIn yX1_lossIn, Cond.code yX1_lossIn cX1_lossIn 6 (some .int)]
def wsX6_lookOfCell : List Cond := .code yX6_lookOfCell cX6_lookOfCell 5 (some .int) :: ((wsX6_lookOfCell_r1 ++ wsX6_lookOfCell_r2) ++ wsX60 ++ wsX00 ++ wsX10)
def wsX2_unpaint : List Cond := .code yX2_unpaint cX2_unpaint 2 none :: ([.fieldLink RX2 18 "TouchUp$Edges" "wall" "LTouchUp$Wall;", .fieldLink RX2 22 "TouchUp$Wall" "count" "I", .fieldLink RX2 15 "TouchUp$Edges" "shows" "[I"] ++ wsX20 ++ wsX60)
def wsX2_takeAsItIs_r1 : List Cond := [Cond.fieldLink RX2 18 "TouchUp$Edges" "wall" "LTouchUp$Wall;", Cond.fieldLink RX2 22 "TouchUp$Wall" "count" "I", Cond.fieldLink RX2 9 "TouchUp$Edges" "looks" "[I", Cond.methodLink RX2 28 yX6_views, Cond.instanceMethod yX6_views, Cond.selects RX6 yX6_views yX6_views, Cond.initialized RX6, Cond.code yX6_views cX6_views 1 (some .int), Cond.fieldLink RX6 57 "TouchUp$Wall" "lightCount" "I", Cond.methodLink RX2 32 yX6_lookOfCell, Cond.instanceMethod yX6_lookOfCell, Cond.selects RX6 yX6_lookOfCell yX6_lookOfCell, Cond.code yX6_lookOfCell cX6_lookOfCell 5 (some .int), Cond.fieldLink RX6 11 "TouchUp$Wall" "cells" "[LTouchUp$Cell;", Cond.fieldLink RX6 19 "TouchUp$Wall" "coats" "[LTouchUp$Coat;", Cond.fieldLink RX6 80 "TouchUp$Cell" "coat" "I", Cond.fieldLink RX6 83 "TouchUp$Cell" "sunHad" "I", Cond.fieldLink RX6 86 "TouchUp$Cell" "air" "I", Cond.methodLink RX6 89 yX6_lookOfCoat, Cond.instanceMethod yX6_lookOfCoat, Cond.selects RX6 yX6_lookOfCoat yX6_lookOfCoat, Cond.code yX6_lookOfCoat cX6_lookOfCoat 8 (some .int), Cond.fieldLink RX6 51 "TouchUp$Wall" "smoke" "I", Cond.fieldLink RX6 23 "TouchUp$Wall" "weights" "[I"]
def wsX2_takeAsItIs_r2 : List Cond := [Cond.methodLink RX6 76 yX1_comesBack, Cond.instanceMethod yX1_comesBack, Cond.selects RX1 yX1_comesBack yX1_comesBack, Cond.initialized RX1, Cond.code yX1_comesBack cX1_comesBack 7 (some .int), Cond.fieldLink RX1 9 "TouchUp$Coat" "bands" "[I", Cond.methodLink RX1 23 Lib.Math.max.name, Cond.static Lib.Math.max.name, Cond.initialized "java/lang/Math", Cond.code Lib.Math.max.name Lib.Math.max.code 2 (some .int), Cond.fieldLink RX1 15 "TouchUp$Coat" "kind" "I", Cond.methodLink RX1 19 yX1_lossIn, Cond.instanceMethod yX1_lossIn, Cond.selects RX1 yX1_lossIn yX1_lossIn, Cond.code yX1_lossIn cX1_lossIn 6 (some .int), Cond.methodLink RX2 36 yX2_unpaint, Cond.instanceMethod yX2_unpaint, Cond.selects RX2 yX2_unpaint yX2_unpaint, Cond.initialized RX2, Cond.code yX2_unpaint cX2_unpaint 2 none, Cond.fieldLink RX2 15 "TouchUp$Edges" "shows" "[I"]
def wsX2_takeAsItIs : List Cond := .code yX2_takeAsItIs cX2_takeAsItIs 3 none :: ((wsX2_takeAsItIs_r1 ++ wsX2_takeAsItIs_r2) ++ wsX20 ++ wsX60 ++ wsX00 ++ wsX10)
def wsX2_takeFresh_r1 : List Cond := [Cond.fieldLink RX2 18 "TouchUp$Edges" "wall" "LTouchUp$Wall;", Cond.fieldLink RX2 9 "TouchUp$Edges" "looks" "[I", Cond.fieldLink RX2 39 "TouchUp$Wall" "coats" "[LTouchUp$Coat;", Cond.methodLink RX2 28 yX6_views, Cond.instanceMethod yX6_views, Cond.selects RX6 yX6_views yX6_views, Cond.initialized RX6, Cond.code yX6_views cX6_views 1 (some .int), Cond.fieldLink RX6 57 "TouchUp$Wall" "lightCount" "I", Cond.methodLink RX2 43 yX6_lookOfCoat, Cond.instanceMethod yX6_lookOfCoat, Cond.selects RX6 yX6_lookOfCoat yX6_lookOfCoat, Cond.code yX6_lookOfCoat cX6_lookOfCoat 8 (some .int), Cond.fieldLink RX6 51 "TouchUp$Wall" "smoke" "I", Cond.fieldLink RX6 23 "TouchUp$Wall" "weights" "[I", Cond.methodLink RX6 76 yX1_comesBack, Cond.instanceMethod yX1_comesBack, Cond.selects RX1 yX1_comesBack yX1_comesBack, Cond.initialized RX1, Cond.code yX1_comesBack cX1_comesBack 7 (some .int), Cond.fieldLink RX1 9 "TouchUp$Coat" "bands" "[I", Cond.methodLink RX1 23 Lib.Math.max.name, Cond.static Lib.Math.max.name, Cond.initialized "java/lang/Math"]
def wsX2_takeFresh_r2 : List Cond := [Cond.code Lib.Math.max.name Lib.Math.max.code 2 (some .int), Cond.fieldLink RX1 15 "TouchUp$Coat" "kind" "I", Cond.methodLink RX1 19 yX1_lossIn, Cond.instanceMethod yX1_lossIn, Cond.selects RX1 yX1_lossIn yX1_lossIn, Cond.code yX1_lossIn cX1_lossIn 6 (some .int)]
def wsX2_takeFresh : List Cond := .code yX2_takeFresh cX2_takeFresh 3 none :: ((wsX2_takeFresh_r1 ++ wsX2_takeFresh_r2) ++ wsX20 ++ wsX60 ++ wsX10)
def wsX2_paintOne : List Cond := .code yX2_paintOne cX2_paintOne 2 none :: ([.fieldLink RX2 15 "TouchUp$Edges" "shows" "[I"] ++ wsX20)
def wsX6_columnOf : List Cond := .code yX6_columnOf cX6_columnOf 2 (some .int) :: ([.fieldLink RX6 38 "TouchUp$Wall" "wide" "I"] ++ wsX60)
def wsX2_isSeenBetween : List Cond := .code yX2_isSeenBetween cX2_isSeenBetween 6 (some .boolean) :: ([.fieldLink RX2 15 "TouchUp$Edges" "shows" "[I", .fieldLink RX2 18 "TouchUp$Edges" "wall" "LTouchUp$Wall;", .fieldLink RX2 9 "TouchUp$Edges" "looks" "[I", .methodLink RX2 65 Lib.Math.abs.name, .static Lib.Math.abs.name, .initialized "java/lang/Math", .code Lib.Math.abs.name Lib.Math.abs.code 1 (some .int), .fieldLink RX2 70 "TouchUp$Wall" "line" "I", .methodLink RX2 28 yX6_views, .instanceMethod yX6_views, .selects RX6 yX6_views yX6_views, .initialized RX6, .code yX6_views cX6_views 1 (some .int), .fieldLink RX6 57 "TouchUp$Wall" "lightCount" "I"] ++ wsX20 ++ wsX60)
def wsX2_isSeenToRight_r1 : List Cond := [Cond.fieldLink RX2 18 "TouchUp$Edges" "wall" "LTouchUp$Wall;", Cond.fieldLink RX2 58 "TouchUp$Wall" "wide" "I", Cond.methodLink RX2 54 yX6_columnOf, Cond.instanceMethod yX6_columnOf, Cond.selects RX6 yX6_columnOf yX6_columnOf, Cond.initialized RX6, Cond.code yX6_columnOf cX6_columnOf 2 (some .int), Cond.fieldLink RX6 38 "TouchUp$Wall" "wide" "I", Cond.methodLink RX2 61 yX2_isSeenBetween, Cond.instanceMethod yX2_isSeenBetween, Cond.selects RX2 yX2_isSeenBetween yX2_isSeenBetween, Cond.initialized RX2, Cond.code yX2_isSeenBetween cX2_isSeenBetween 6 (some .boolean), Cond.fieldLink RX2 15 "TouchUp$Edges" "shows" "[I", Cond.fieldLink RX2 9 "TouchUp$Edges" "looks" "[I", Cond.methodLink RX2 65 Lib.Math.abs.name, Cond.static Lib.Math.abs.name, Cond.initialized "java/lang/Math", Cond.code Lib.Math.abs.name Lib.Math.abs.code 1 (some .int), Cond.fieldLink RX2 70 "TouchUp$Wall" "line" "I", Cond.methodLink RX2 28 yX6_views, Cond.instanceMethod yX6_views, Cond.selects RX6 yX6_views yX6_views, Cond.code yX6_views cX6_views 1 (some .int)]
def wsX2_isSeenToRight_r2 : List Cond := [Cond.fieldLink RX6 57 "TouchUp$Wall" "lightCount" "I"]
def wsX2_isSeenToRight : List Cond := .code yX2_isSeenToRight cX2_isSeenToRight 2 (some .boolean) :: ((wsX2_isSeenToRight_r1 ++ wsX2_isSeenToRight_r2) ++ wsX20 ++ wsX60)
def wsX2_isSeenBelow : List Cond := .code yX2_isSeenBelow cX2_isSeenBelow 2 (some .boolean) :: ([.fieldLink RX2 18 "TouchUp$Edges" "wall" "LTouchUp$Wall;", .fieldLink RX2 58 "TouchUp$Wall" "wide" "I", .fieldLink RX2 22 "TouchUp$Wall" "count" "I", .methodLink RX2 61 yX2_isSeenBetween, .instanceMethod yX2_isSeenBetween, .selects RX2 yX2_isSeenBetween yX2_isSeenBetween, .initialized RX2, .code yX2_isSeenBetween cX2_isSeenBetween 6 (some .boolean), .fieldLink RX2 15 "TouchUp$Edges" "shows" "[I", .fieldLink RX2 9 "TouchUp$Edges" "looks" "[I", .methodLink RX2 65 Lib.Math.abs.name, .static Lib.Math.abs.name, .initialized "java/lang/Math", .code Lib.Math.abs.name Lib.Math.abs.code 1 (some .int), .fieldLink RX2 70 "TouchUp$Wall" "line" "I", .methodLink RX2 28 yX6_views, .instanceMethod yX6_views, .selects RX6 yX6_views yX6_views, .initialized RX6, .code yX6_views cX6_views 1 (some .int), .fieldLink RX6 57 "TouchUp$Wall" "lightCount" "I"] ++ wsX20 ++ wsX60)
def wsX2_countSeen_r1 : List Cond := [Cond.fieldLink RX2 18 "TouchUp$Edges" "wall" "LTouchUp$Wall;", Cond.fieldLink RX2 22 "TouchUp$Wall" "count" "I", Cond.methodLink RX2 47 yX2_isSeenToRight, Cond.instanceMethod yX2_isSeenToRight, Cond.selects RX2 yX2_isSeenToRight yX2_isSeenToRight, Cond.initialized RX2, Cond.code yX2_isSeenToRight cX2_isSeenToRight 2 (some .boolean), Cond.fieldLink RX2 58 "TouchUp$Wall" "wide" "I", Cond.methodLink RX2 54 yX6_columnOf, Cond.instanceMethod yX6_columnOf, Cond.selects RX6 yX6_columnOf yX6_columnOf, Cond.initialized RX6, Cond.code yX6_columnOf cX6_columnOf 2 (some .int), Cond.fieldLink RX6 38 "TouchUp$Wall" "wide" "I", Cond.methodLink RX2 61 yX2_isSeenBetween, Cond.instanceMethod yX2_isSeenBetween, Cond.selects RX2 yX2_isSeenBetween yX2_isSeenBetween, Cond.code yX2_isSeenBetween cX2_isSeenBetween 6 (some .boolean), Cond.fieldLink RX2 15 "TouchUp$Edges" "shows" "[I", Cond.fieldLink RX2 9 "TouchUp$Edges" "looks" "[I", Cond.methodLink RX2 65 Lib.Math.abs.name, Cond.static Lib.Math.abs.name, Cond.initialized "java/lang/Math", Cond.code Lib.Math.abs.name Lib.Math.abs.code 1 (some .int)]
def wsX2_countSeen_r2 : List Cond := [Cond.fieldLink RX2 70 "TouchUp$Wall" "line" "I", Cond.methodLink RX2 28 yX6_views, Cond.instanceMethod yX6_views, Cond.selects RX6 yX6_views yX6_views, Cond.code yX6_views cX6_views 1 (some .int), Cond.fieldLink RX6 57 "TouchUp$Wall" "lightCount" "I", Cond.methodLink RX2 51 yX2_isSeenBelow, Cond.instanceMethod yX2_isSeenBelow, Cond.selects RX2 yX2_isSeenBelow yX2_isSeenBelow, Cond.code yX2_isSeenBelow cX2_isSeenBelow 2 (some .boolean)]
def wsX2_countSeen : List Cond := .code yX2_countSeen cX2_countSeen 3 (some .int) :: ((wsX2_countSeen_r1 ++ wsX2_countSeen_r2) ++ wsX20 ++ wsX60)
def wsX2_countSeenOf_r1 : List Cond := [Cond.fieldLink RX2 18 "TouchUp$Edges" "wall" "LTouchUp$Wall;", Cond.fieldLink RX2 58 "TouchUp$Wall" "wide" "I", Cond.methodLink RX2 47 yX2_isSeenToRight, Cond.instanceMethod yX2_isSeenToRight, Cond.selects RX2 yX2_isSeenToRight yX2_isSeenToRight, Cond.initialized RX2, Cond.code yX2_isSeenToRight cX2_isSeenToRight 2 (some .boolean), Cond.methodLink RX2 54 yX6_columnOf, Cond.instanceMethod yX6_columnOf, Cond.selects RX6 yX6_columnOf yX6_columnOf, Cond.initialized RX6, Cond.code yX6_columnOf cX6_columnOf 2 (some .int), Cond.fieldLink RX6 38 "TouchUp$Wall" "wide" "I", Cond.methodLink RX2 61 yX2_isSeenBetween, Cond.instanceMethod yX2_isSeenBetween, Cond.selects RX2 yX2_isSeenBetween yX2_isSeenBetween, Cond.code yX2_isSeenBetween cX2_isSeenBetween 6 (some .boolean), Cond.fieldLink RX2 15 "TouchUp$Edges" "shows" "[I", Cond.fieldLink RX2 9 "TouchUp$Edges" "looks" "[I", Cond.methodLink RX2 65 Lib.Math.abs.name, Cond.static Lib.Math.abs.name, Cond.initialized "java/lang/Math", Cond.code Lib.Math.abs.name Lib.Math.abs.code 1 (some .int), Cond.fieldLink RX2 70 "TouchUp$Wall" "line" "I"]
def wsX2_countSeenOf_r2 : List Cond := [Cond.methodLink RX2 28 yX6_views, Cond.instanceMethod yX6_views, Cond.selects RX6 yX6_views yX6_views, Cond.code yX6_views cX6_views 1 (some .int), Cond.fieldLink RX6 57 "TouchUp$Wall" "lightCount" "I", Cond.methodLink RX2 51 yX2_isSeenBelow, Cond.instanceMethod yX2_isSeenBelow, Cond.selects RX2 yX2_isSeenBelow yX2_isSeenBelow, Cond.code yX2_isSeenBelow cX2_isSeenBelow 2 (some .boolean), Cond.fieldLink RX2 22 "TouchUp$Wall" "count" "I"]
def wsX2_countSeenOf : List Cond := .code yX2_countSeenOf cX2_countSeenOf 3 (some .int) :: ((wsX2_countSeenOf_r1 ++ wsX2_countSeenOf_r2) ++ wsX20 ++ wsX60)
def wsX2_isAnySeen_r1 : List Cond := [Cond.fieldLink RX2 18 "TouchUp$Edges" "wall" "LTouchUp$Wall;", Cond.fieldLink RX2 22 "TouchUp$Wall" "count" "I", Cond.methodLink RX2 47 yX2_isSeenToRight, Cond.instanceMethod yX2_isSeenToRight, Cond.selects RX2 yX2_isSeenToRight yX2_isSeenToRight, Cond.initialized RX2, Cond.code yX2_isSeenToRight cX2_isSeenToRight 2 (some .boolean), Cond.fieldLink RX2 58 "TouchUp$Wall" "wide" "I", Cond.methodLink RX2 54 yX6_columnOf, Cond.instanceMethod yX6_columnOf, Cond.selects RX6 yX6_columnOf yX6_columnOf, Cond.initialized RX6, Cond.code yX6_columnOf cX6_columnOf 2 (some .int), Cond.fieldLink RX6 38 "TouchUp$Wall" "wide" "I", Cond.methodLink RX2 61 yX2_isSeenBetween, Cond.instanceMethod yX2_isSeenBetween, Cond.selects RX2 yX2_isSeenBetween yX2_isSeenBetween, Cond.code yX2_isSeenBetween cX2_isSeenBetween 6 (some .boolean), Cond.fieldLink RX2 15 "TouchUp$Edges" "shows" "[I", Cond.fieldLink RX2 9 "TouchUp$Edges" "looks" "[I", Cond.methodLink RX2 65 Lib.Math.abs.name, Cond.static Lib.Math.abs.name, Cond.initialized "java/lang/Math", Cond.code Lib.Math.abs.name Lib.Math.abs.code 1 (some .int)]
def wsX2_isAnySeen_r2 : List Cond := [Cond.fieldLink RX2 70 "TouchUp$Wall" "line" "I", Cond.methodLink RX2 28 yX6_views, Cond.instanceMethod yX6_views, Cond.selects RX6 yX6_views yX6_views, Cond.code yX6_views cX6_views 1 (some .int), Cond.fieldLink RX6 57 "TouchUp$Wall" "lightCount" "I", Cond.methodLink RX2 51 yX2_isSeenBelow, Cond.instanceMethod yX2_isSeenBelow, Cond.selects RX2 yX2_isSeenBelow yX2_isSeenBelow, Cond.code yX2_isSeenBelow cX2_isSeenBelow 2 (some .boolean)]
def wsX2_isAnySeen : List Cond := .code yX2_isAnySeen cX2_isAnySeen 2 (some .boolean) :: ((wsX2_isAnySeen_r1 ++ wsX2_isAnySeen_r2) ++ wsX20 ++ wsX60)
def wsX3_init : List Cond := .code yX3_init cX3_init 2 none :: ([.methodLink RX3 3 objectInit, .instanceMethod objectInit, .code objectInit ⟨#[0xb1]⟩ 1 none, .arrayClass .int, .fieldLink RX3 9 "TouchUp$Mixer" "drops" "[I", .classLink RX3 15 RX1, .instantiable RX1 2, .initialized RX1, .fieldLink RX3 18 "TouchUp$Mixer" "mixed" "LTouchUp$Coat;", .fieldLink RX3 22 "TouchUp$Mixer" "now" "[I", .fieldLink RX3 25 "TouchUp$Mixer" "bestDrops" "[I", .fieldLink RX3 28 "TouchUp$Mixer" "wall" "LTouchUp$Wall;", .instanceMethod yX1_init, .code yX1_init cX1_init 1 none, .methodLink RX1 3 objectInit, .fieldLink RX1 9 "TouchUp$Coat" "bands" "[I"] ++ wsX30 ++ wsX10)
def wsX3_pour : List Cond := .code yX3_pour cX3_pour 5 none :: ([.fieldLink RX3 9 "TouchUp$Mixer" "drops" "[I"] ++ wsX30)
def wsX7_isWithin : List Cond := .code yX7_isWithin cX7_isWithin 3 (some .boolean) :: ([])
def wsX6_hasCoat : List Cond := .code yX6_hasCoat cX6_hasCoat 2 (some .boolean) :: ([.fieldLink RX6 60 "TouchUp$Wall" "coatCount" "I"] ++ wsX60)
def wsX3_isMix : List Cond := .code yX3_isMix cX3_isMix 3 (some .boolean) :: ([.fieldLink RX3 9 "TouchUp$Mixer" "drops" "[I", .fieldLink RX3 28 "TouchUp$Mixer" "wall" "LTouchUp$Wall;", .static yX7_isWithin, .initialized RX7, .code yX7_isWithin cX7_isWithin 3 (some .boolean), .methodLink RX3 36 yX6_hasCoat, .instanceMethod yX6_hasCoat, .selects RX6 yX6_hasCoat yX6_hasCoat, .initialized RX6, .code yX6_hasCoat cX6_hasCoat 2 (some .boolean), .fieldLink RX6 60 "TouchUp$Wall" "coatCount" "I"] ++ wsX30 ++ wsX60)
def wsX3_sumOfDrops : List Cond := .code yX3_sumOfDrops cX3_sumOfDrops 1 (some .int) :: ([.fieldLink RX3 9 "TouchUp$Mixer" "drops" "[I"] ++ wsX30)
def wsX3_leastInIt : List Cond := .code yX3_leastInIt cX3_leastInIt 2 (some .int) :: ([.fieldLink RX3 9 "TouchUp$Mixer" "drops" "[I"] ++ wsX30)
def wsX3_stir : List Cond := .code yX3_stir cX3_stir 5 (some (.object "TouchUp$Coat")) :: ([.methodLink RX3 46 Lib.Math.max.name, .static Lib.Math.max.name, .initialized "java/lang/Math", .code Lib.Math.max.name Lib.Math.max.code 2 (some .int), .fieldLink RX3 9 "TouchUp$Mixer" "drops" "[I", .fieldLink RX3 28 "TouchUp$Mixer" "wall" "LTouchUp$Wall;", .fieldLink RX3 52 "TouchUp$Wall" "coats" "[LTouchUp$Coat;", .fieldLink RX3 56 "TouchUp$Coat" "bands" "[I", .fieldLink RX3 18 "TouchUp$Mixer" "mixed" "LTouchUp$Coat;", .fieldLink RX3 62 "TouchUp$Coat" "kind" "I", .methodLink RX3 42 yX3_sumOfDrops, .instanceMethod yX3_sumOfDrops, .selects RX3 yX3_sumOfDrops yX3_sumOfDrops, .initialized RX3, .code yX3_sumOfDrops cX3_sumOfDrops 1 (some .int), .methodLink RX3 59 yX3_leastInIt, .instanceMethod yX3_leastInIt, .selects RX3 yX3_leastInIt yX3_leastInIt, .code yX3_leastInIt cX3_leastInIt 2 (some .int)] ++ wsX30 ++ wsX60 ++ wsX10)
def wsX3_farthestApart_r1 : List Cond := [Cond.fieldLink RX3 28 "TouchUp$Mixer" "wall" "LTouchUp$Wall;", Cond.fieldLink RX3 18 "TouchUp$Mixer" "mixed" "LTouchUp$Coat;", Cond.fieldLink RX3 22 "TouchUp$Mixer" "now" "[I", Cond.methodLink RX3 110 Lib.Math.abs.name, Cond.static Lib.Math.abs.name, Cond.initialized "java/lang/Math", Cond.code Lib.Math.abs.name Lib.Math.abs.code 1 (some .int), Cond.methodLink RX3 46 Lib.Math.max.name, Cond.static Lib.Math.max.name, Cond.code Lib.Math.max.name Lib.Math.max.code 2 (some .int), Cond.methodLink RX3 66 yX6_views, Cond.instanceMethod yX6_views, Cond.selects RX6 yX6_views yX6_views, Cond.initialized RX6, Cond.code yX6_views cX6_views 1 (some .int), Cond.fieldLink RX6 57 "TouchUp$Wall" "lightCount" "I", Cond.methodLink RX3 106 yX6_lookOfCoat, Cond.instanceMethod yX6_lookOfCoat, Cond.selects RX6 yX6_lookOfCoat yX6_lookOfCoat, Cond.code yX6_lookOfCoat cX6_lookOfCoat 8 (some .int), Cond.fieldLink RX6 51 "TouchUp$Wall" "smoke" "I", Cond.fieldLink RX6 23 "TouchUp$Wall" "weights" "[I", Cond.methodLink RX6 76 yX1_comesBack, Cond.instanceMethod yX1_comesBack]
def wsX3_farthestApart_r2 : List Cond := [Cond.selects RX1 yX1_comesBack yX1_comesBack, Cond.initialized RX1, Cond.code yX1_comesBack cX1_comesBack 7 (some .int), Cond.fieldLink RX1 9 "TouchUp$Coat" "bands" "[I", Cond.methodLink RX1 23 Lib.Math.max.name, Cond.fieldLink RX1 15 "TouchUp$Coat" "kind" "I", Cond.methodLink RX1 19 yX1_lossIn, Cond.instanceMethod yX1_lossIn, Cond.selects RX1 yX1_lossIn yX1_lossIn, Cond.code yX1_lossIn cX1_lossIn 6 (some .int)]
def wsX3_farthestApart : List Cond := .code yX3_farthestApart cX3_farthestApart 4 (some .int) :: ((wsX3_farthestApart_r1 ++ wsX3_farthestApart_r2) ++ wsX30 ++ wsX60 ++ wsX10)
def wsX3_keepIfBetter_r1 : List Cond := [Cond.fieldLink RX3 76 "TouchUp$Mixer" "leastUnlike" "I", Cond.fieldLink RX3 79 "TouchUp$Mixer" "fewestDrops" "I", Cond.fieldLink RX3 9 "TouchUp$Mixer" "drops" "[I", Cond.fieldLink RX3 25 "TouchUp$Mixer" "bestDrops" "[I", Cond.methodLink RX3 100 arraycopyName, Cond.native arraycopyName, Cond.static arraycopyName, Cond.initialized "java/lang/System", Cond.methodLink RX3 89 yX3_isMix, Cond.instanceMethod yX3_isMix, Cond.selects RX3 yX3_isMix yX3_isMix, Cond.initialized RX3, Cond.code yX3_isMix cX3_isMix 3 (some .boolean), Cond.fieldLink RX3 28 "TouchUp$Mixer" "wall" "LTouchUp$Wall;", Cond.static yX7_isWithin, Cond.initialized RX7, Cond.code yX7_isWithin cX7_isWithin 3 (some .boolean), Cond.methodLink RX3 36 yX6_hasCoat, Cond.instanceMethod yX6_hasCoat, Cond.selects RX6 yX6_hasCoat yX6_hasCoat, Cond.initialized RX6, Cond.code yX6_hasCoat cX6_hasCoat 2 (some .boolean), Cond.fieldLink RX6 60 "TouchUp$Wall" "coatCount" "I", Cond.methodLink RX3 93 yX3_stir]
def wsX3_keepIfBetter_r2 : List Cond := [Cond.instanceMethod yX3_stir, Cond.selects RX3 yX3_stir yX3_stir, Cond.code yX3_stir cX3_stir 5 (some (.object "TouchUp$Coat")), Cond.methodLink RX3 46 Lib.Math.max.name, Cond.static Lib.Math.max.name, Cond.initialized "java/lang/Math", Cond.code Lib.Math.max.name Lib.Math.max.code 2 (some .int), Cond.fieldLink RX3 52 "TouchUp$Wall" "coats" "[LTouchUp$Coat;", Cond.fieldLink RX3 56 "TouchUp$Coat" "bands" "[I", Cond.fieldLink RX3 18 "TouchUp$Mixer" "mixed" "LTouchUp$Coat;", Cond.fieldLink RX3 62 "TouchUp$Coat" "kind" "I", Cond.methodLink RX3 42 yX3_sumOfDrops, Cond.instanceMethod yX3_sumOfDrops, Cond.selects RX3 yX3_sumOfDrops yX3_sumOfDrops, Cond.code yX3_sumOfDrops cX3_sumOfDrops 1 (some .int), Cond.methodLink RX3 59 yX3_leastInIt, Cond.instanceMethod yX3_leastInIt, Cond.selects RX3 yX3_leastInIt yX3_leastInIt, Cond.code yX3_leastInIt cX3_leastInIt 2 (some .int), Cond.methodLink RX3 97 yX3_farthestApart, Cond.instanceMethod yX3_farthestApart, Cond.selects RX3 yX3_farthestApart yX3_farthestApart, Cond.code yX3_farthestApart cX3_farthestApart 4 (some .int), Cond.fieldLink RX3 22 "TouchUp$Mixer" "now" "[I"]
def wsX3_keepIfBetter_r3 : List Cond := [Cond.methodLink RX3 110 Lib.Math.abs.name, Cond.static Lib.Math.abs.name, Cond.code Lib.Math.abs.name Lib.Math.abs.code 1 (some .int), Cond.methodLink RX3 66 yX6_views, Cond.instanceMethod yX6_views, Cond.selects RX6 yX6_views yX6_views, Cond.code yX6_views cX6_views 1 (some .int), Cond.fieldLink RX6 57 "TouchUp$Wall" "lightCount" "I", Cond.methodLink RX3 106 yX6_lookOfCoat, Cond.instanceMethod yX6_lookOfCoat, Cond.selects RX6 yX6_lookOfCoat yX6_lookOfCoat, Cond.code yX6_lookOfCoat cX6_lookOfCoat 8 (some .int), Cond.fieldLink RX6 51 "TouchUp$Wall" "smoke" "I", Cond.fieldLink RX6 23 "TouchUp$Wall" "weights" "[I", Cond.methodLink RX6 76 yX1_comesBack, Cond.instanceMethod yX1_comesBack, Cond.selects RX1 yX1_comesBack yX1_comesBack, Cond.initialized RX1, Cond.code yX1_comesBack cX1_comesBack 7 (some .int), Cond.fieldLink RX1 9 "TouchUp$Coat" "bands" "[I", Cond.methodLink RX1 23 Lib.Math.max.name, Cond.fieldLink RX1 15 "TouchUp$Coat" "kind" "I", Cond.methodLink RX1 19 yX1_lossIn, Cond.instanceMethod yX1_lossIn]
def wsX3_keepIfBetter_r4 : List Cond := [Cond.selects RX1 yX1_lossIn yX1_lossIn, Cond.code yX1_lossIn cX1_lossIn 6 (some .int)]
def wsX3_keepIfBetter : List Cond := .code yX3_keepIfBetter cX3_keepIfBetter 3 none :: ((wsX3_keepIfBetter_r1 ++ (wsX3_keepIfBetter_r2 ++ (wsX3_keepIfBetter_r3 ++ wsX3_keepIfBetter_r4))) ++ wsX30 ++ wsX60 ++ wsX10)
def wsX3_searchFor_r1 : List Cond := [Cond.fieldLink RX3 28 "TouchUp$Mixer" "wall" "LTouchUp$Wall;", Cond.fieldLink RX3 22 "TouchUp$Mixer" "now" "[I", Cond.constant RX3 75 (2147483647), Cond.fieldLink RX3 76 "TouchUp$Mixer" "leastUnlike" "I", Cond.fieldLink RX3 79 "TouchUp$Mixer" "fewestDrops" "I", Cond.methodLink RX3 66 yX6_views, Cond.instanceMethod yX6_views, Cond.selects RX6 yX6_views yX6_views, Cond.initialized RX6, Cond.code yX6_views cX6_views 1 (some .int), Cond.fieldLink RX6 57 "TouchUp$Wall" "lightCount" "I", Cond.methodLink RX3 69 yX6_lookOfCell, Cond.instanceMethod yX6_lookOfCell, Cond.selects RX6 yX6_lookOfCell yX6_lookOfCell, Cond.code yX6_lookOfCell cX6_lookOfCell 5 (some .int), Cond.fieldLink RX6 11 "TouchUp$Wall" "cells" "[LTouchUp$Cell;", Cond.fieldLink RX6 19 "TouchUp$Wall" "coats" "[LTouchUp$Coat;", Cond.fieldLink RX6 80 "TouchUp$Cell" "coat" "I", Cond.fieldLink RX6 83 "TouchUp$Cell" "sunHad" "I", Cond.fieldLink RX6 86 "TouchUp$Cell" "air" "I", Cond.methodLink RX6 89 yX6_lookOfCoat, Cond.instanceMethod yX6_lookOfCoat, Cond.selects RX6 yX6_lookOfCoat yX6_lookOfCoat, Cond.code yX6_lookOfCoat cX6_lookOfCoat 8 (some .int)]
def wsX3_searchFor_r2 : List Cond := [Cond.fieldLink RX6 51 "TouchUp$Wall" "smoke" "I", Cond.fieldLink RX6 23 "TouchUp$Wall" "weights" "[I", Cond.methodLink RX6 76 yX1_comesBack, Cond.instanceMethod yX1_comesBack, Cond.selects RX1 yX1_comesBack yX1_comesBack, Cond.initialized RX1, Cond.code yX1_comesBack cX1_comesBack 7 (some .int), Cond.fieldLink RX1 9 "TouchUp$Coat" "bands" "[I", Cond.methodLink RX1 23 Lib.Math.max.name, Cond.static Lib.Math.max.name, Cond.initialized "java/lang/Math", Cond.code Lib.Math.max.name Lib.Math.max.code 2 (some .int), Cond.fieldLink RX1 15 "TouchUp$Coat" "kind" "I", Cond.methodLink RX1 19 yX1_lossIn, Cond.instanceMethod yX1_lossIn, Cond.selects RX1 yX1_lossIn yX1_lossIn, Cond.code yX1_lossIn cX1_lossIn 6 (some .int), Cond.methodLink RX3 82 yX3_pour, Cond.instanceMethod yX3_pour, Cond.selects RX3 yX3_pour yX3_pour, Cond.initialized RX3, Cond.code yX3_pour cX3_pour 5 none, Cond.fieldLink RX3 9 "TouchUp$Mixer" "drops" "[I", Cond.methodLink RX3 86 yX3_keepIfBetter]
def wsX3_searchFor_r3 : List Cond := [Cond.instanceMethod yX3_keepIfBetter, Cond.selects RX3 yX3_keepIfBetter yX3_keepIfBetter, Cond.code yX3_keepIfBetter cX3_keepIfBetter 3 none, Cond.fieldLink RX3 25 "TouchUp$Mixer" "bestDrops" "[I", Cond.methodLink RX3 100 arraycopyName, Cond.native arraycopyName, Cond.static arraycopyName, Cond.initialized "java/lang/System", Cond.methodLink RX3 89 yX3_isMix, Cond.instanceMethod yX3_isMix, Cond.selects RX3 yX3_isMix yX3_isMix, Cond.code yX3_isMix cX3_isMix 3 (some .boolean), Cond.static yX7_isWithin, Cond.initialized RX7, Cond.code yX7_isWithin cX7_isWithin 3 (some .boolean), Cond.methodLink RX3 36 yX6_hasCoat, Cond.instanceMethod yX6_hasCoat, Cond.selects RX6 yX6_hasCoat yX6_hasCoat, Cond.code yX6_hasCoat cX6_hasCoat 2 (some .boolean), Cond.fieldLink RX6 60 "TouchUp$Wall" "coatCount" "I", Cond.methodLink RX3 93 yX3_stir, Cond.instanceMethod yX3_stir, Cond.selects RX3 yX3_stir yX3_stir, Cond.code yX3_stir cX3_stir 5 (some (.object "TouchUp$Coat"))]
def wsX3_searchFor_r4 : List Cond := [Cond.methodLink RX3 46 Lib.Math.max.name, Cond.fieldLink RX3 52 "TouchUp$Wall" "coats" "[LTouchUp$Coat;", Cond.fieldLink RX3 56 "TouchUp$Coat" "bands" "[I", Cond.fieldLink RX3 18 "TouchUp$Mixer" "mixed" "LTouchUp$Coat;", Cond.fieldLink RX3 62 "TouchUp$Coat" "kind" "I", Cond.methodLink RX3 42 yX3_sumOfDrops, Cond.instanceMethod yX3_sumOfDrops, Cond.selects RX3 yX3_sumOfDrops yX3_sumOfDrops, Cond.code yX3_sumOfDrops cX3_sumOfDrops 1 (some .int), Cond.methodLink RX3 59 yX3_leastInIt, Cond.instanceMethod yX3_leastInIt, Cond.selects RX3 yX3_leastInIt yX3_leastInIt, Cond.code yX3_leastInIt cX3_leastInIt 2 (some .int), Cond.methodLink RX3 97 yX3_farthestApart, Cond.instanceMethod yX3_farthestApart, Cond.selects RX3 yX3_farthestApart yX3_farthestApart, Cond.code yX3_farthestApart cX3_farthestApart 4 (some .int), Cond.methodLink RX3 110 Lib.Math.abs.name, Cond.static Lib.Math.abs.name, Cond.code Lib.Math.abs.name Lib.Math.abs.code 1 (some .int), Cond.methodLink RX3 106 yX6_lookOfCoat]
def wsX3_searchFor : List Cond := .code yX3_searchFor cX3_searchFor 7 none :: ((wsX3_searchFor_r1 ++ (wsX3_searchFor_r2 ++ (wsX3_searchFor_r3 ++ wsX3_searchFor_r4))) ++ wsX30 ++ wsX60 ++ wsX00 ++ wsX10)
def wsX4_init : List Cond := .code yX4_init cX4_init 3 none :: ([.methodLink RX4 1 objectInit, .instanceMethod objectInit, .code objectInit ⟨#[0xb1]⟩ 1 none, .fieldLink RX4 7 "TouchUp$Patch" "wall" "LTouchUp$Wall;", .fieldLink RX4 13 "TouchUp$Patch" "edges" "LTouchUp$Edges;"] ++ wsX40)
def wsX6_rowOf : List Cond := .code yX6_rowOf cX6_rowOf 2 (some .int) :: ([.fieldLink RX6 38 "TouchUp$Wall" "wide" "I"] ++ wsX60)
def wsX4_keepIfBetter_r1 : List Cond := [Cond.fieldLink RX4 17 "TouchUp$Patch" "size" "I", Cond.fieldLink RX4 13 "TouchUp$Patch" "edges" "LTouchUp$Edges;", Cond.fieldLink RX4 7 "TouchUp$Patch" "wall" "LTouchUp$Wall;", Cond.fieldLink RX4 42 "TouchUp$Wall" "wide" "I", Cond.fieldLink RX4 59 "TouchUp$Patch" "first" "I", Cond.fieldLink RX4 62 "TouchUp$Patch" "last" "I", Cond.methodLink RX4 49 yX2_unpaint, Cond.instanceMethod yX2_unpaint, Cond.selects RX2 yX2_unpaint yX2_unpaint, Cond.initialized RX2, Cond.code yX2_unpaint cX2_unpaint 2 none, Cond.fieldLink RX2 18 "TouchUp$Edges" "wall" "LTouchUp$Wall;", Cond.fieldLink RX2 22 "TouchUp$Wall" "count" "I", Cond.fieldLink RX2 15 "TouchUp$Edges" "shows" "[I", Cond.methodLink RX4 52 yX2_paintOne, Cond.instanceMethod yX2_paintOne, Cond.selects RX2 yX2_paintOne yX2_paintOne, Cond.code yX2_paintOne cX2_paintOne 2 none, Cond.methodLink RX4 55 yX2_isAnySeen, Cond.instanceMethod yX2_isAnySeen, Cond.selects RX2 yX2_isAnySeen yX2_isAnySeen, Cond.code yX2_isAnySeen cX2_isAnySeen 2 (some .boolean), Cond.methodLink RX2 47 yX2_isSeenToRight, Cond.instanceMethod yX2_isSeenToRight]
def wsX4_keepIfBetter_r2 : List Cond := [Cond.selects RX2 yX2_isSeenToRight yX2_isSeenToRight, Cond.code yX2_isSeenToRight cX2_isSeenToRight 2 (some .boolean), Cond.fieldLink RX2 58 "TouchUp$Wall" "wide" "I", Cond.methodLink RX2 54 yX6_columnOf, Cond.instanceMethod yX6_columnOf, Cond.selects RX6 yX6_columnOf yX6_columnOf, Cond.initialized RX6, Cond.code yX6_columnOf cX6_columnOf 2 (some .int), Cond.fieldLink RX6 38 "TouchUp$Wall" "wide" "I", Cond.methodLink RX2 61 yX2_isSeenBetween, Cond.instanceMethod yX2_isSeenBetween, Cond.selects RX2 yX2_isSeenBetween yX2_isSeenBetween, Cond.code yX2_isSeenBetween cX2_isSeenBetween 6 (some .boolean), Cond.fieldLink RX2 9 "TouchUp$Edges" "looks" "[I", Cond.methodLink RX2 65 Lib.Math.abs.name, Cond.static Lib.Math.abs.name, Cond.initialized "java/lang/Math", Cond.code Lib.Math.abs.name Lib.Math.abs.code 1 (some .int), Cond.fieldLink RX2 70 "TouchUp$Wall" "line" "I", Cond.methodLink RX2 28 yX6_views, Cond.instanceMethod yX6_views, Cond.selects RX6 yX6_views yX6_views, Cond.code yX6_views cX6_views 1 (some .int), Cond.fieldLink RX6 57 "TouchUp$Wall" "lightCount" "I"]
def wsX4_keepIfBetter_r3 : List Cond := [Cond.methodLink RX2 51 yX2_isSeenBelow, Cond.instanceMethod yX2_isSeenBelow, Cond.selects RX2 yX2_isSeenBelow yX2_isSeenBelow, Cond.code yX2_isSeenBelow cX2_isSeenBelow 2 (some .boolean)]
def wsX4_keepIfBetter : List Cond := .code yX4_keepIfBetter cX4_keepIfBetter 8 none :: ((wsX4_keepIfBetter_r1 ++ (wsX4_keepIfBetter_r2 ++ wsX4_keepIfBetter_r3)) ++ wsX40 ++ wsX60 ++ wsX20)
def wsX4_searchAround_r1 : List Cond := [Cond.fieldLink RX4 17 "TouchUp$Patch" "size" "I", Cond.fieldLink RX4 13 "TouchUp$Patch" "edges" "LTouchUp$Edges;", Cond.fieldLink RX4 7 "TouchUp$Patch" "wall" "LTouchUp$Wall;", Cond.fieldLink RX4 39 "TouchUp$Wall" "high" "I", Cond.fieldLink RX4 42 "TouchUp$Wall" "wide" "I", Cond.methodLink RX4 21 yX2_takeAsItIs, Cond.instanceMethod yX2_takeAsItIs, Cond.selects RX2 yX2_takeAsItIs yX2_takeAsItIs, Cond.initialized RX2, Cond.code yX2_takeAsItIs cX2_takeAsItIs 3 none, Cond.fieldLink RX2 18 "TouchUp$Edges" "wall" "LTouchUp$Wall;", Cond.fieldLink RX2 22 "TouchUp$Wall" "count" "I", Cond.fieldLink RX2 9 "TouchUp$Edges" "looks" "[I", Cond.methodLink RX2 28 yX6_views, Cond.instanceMethod yX6_views, Cond.selects RX6 yX6_views yX6_views, Cond.initialized RX6, Cond.code yX6_views cX6_views 1 (some .int), Cond.fieldLink RX6 57 "TouchUp$Wall" "lightCount" "I", Cond.methodLink RX2 32 yX6_lookOfCell, Cond.instanceMethod yX6_lookOfCell, Cond.selects RX6 yX6_lookOfCell yX6_lookOfCell, Cond.code yX6_lookOfCell cX6_lookOfCell 5 (some .int), Cond.fieldLink RX6 11 "TouchUp$Wall" "cells" "[LTouchUp$Cell;"]
def wsX4_searchAround_r2 : List Cond := [Cond.fieldLink RX6 19 "TouchUp$Wall" "coats" "[LTouchUp$Coat;", Cond.fieldLink RX6 80 "TouchUp$Cell" "coat" "I", Cond.fieldLink RX6 83 "TouchUp$Cell" "sunHad" "I", Cond.fieldLink RX6 86 "TouchUp$Cell" "air" "I", Cond.methodLink RX6 89 yX6_lookOfCoat, Cond.instanceMethod yX6_lookOfCoat, Cond.selects RX6 yX6_lookOfCoat yX6_lookOfCoat, Cond.code yX6_lookOfCoat cX6_lookOfCoat 8 (some .int), Cond.fieldLink RX6 51 "TouchUp$Wall" "smoke" "I", Cond.fieldLink RX6 23 "TouchUp$Wall" "weights" "[I", Cond.methodLink RX6 76 yX1_comesBack, Cond.instanceMethod yX1_comesBack, Cond.selects RX1 yX1_comesBack yX1_comesBack, Cond.initialized RX1, Cond.code yX1_comesBack cX1_comesBack 7 (some .int), Cond.fieldLink RX1 9 "TouchUp$Coat" "bands" "[I", Cond.methodLink RX1 23 Lib.Math.max.name, Cond.static Lib.Math.max.name, Cond.initialized "java/lang/Math", Cond.code Lib.Math.max.name Lib.Math.max.code 2 (some .int), Cond.fieldLink RX1 15 "TouchUp$Coat" "kind" "I", Cond.methodLink RX1 19 yX1_lossIn, Cond.instanceMethod yX1_lossIn, Cond.selects RX1 yX1_lossIn yX1_lossIn]
def wsX4_searchAround_r3 : List Cond := [Cond.code yX1_lossIn cX1_lossIn 6 (some .int), Cond.methodLink RX2 36 yX2_unpaint, Cond.instanceMethod yX2_unpaint, Cond.selects RX2 yX2_unpaint yX2_unpaint, Cond.code yX2_unpaint cX2_unpaint 2 none, Cond.fieldLink RX2 15 "TouchUp$Edges" "shows" "[I", Cond.methodLink RX4 26 yX2_takeFresh, Cond.instanceMethod yX2_takeFresh, Cond.selects RX2 yX2_takeFresh yX2_takeFresh, Cond.code yX2_takeFresh cX2_takeFresh 3 none, Cond.fieldLink RX2 39 "TouchUp$Wall" "coats" "[LTouchUp$Coat;", Cond.methodLink RX2 43 yX6_lookOfCoat, Cond.methodLink RX4 30 yX6_rowOf, Cond.instanceMethod yX6_rowOf, Cond.selects RX6 yX6_rowOf yX6_rowOf, Cond.code yX6_rowOf cX6_rowOf 2 (some .int), Cond.fieldLink RX6 38 "TouchUp$Wall" "wide" "I", Cond.methodLink RX4 36 yX6_columnOf, Cond.instanceMethod yX6_columnOf, Cond.selects RX6 yX6_columnOf yX6_columnOf, Cond.code yX6_columnOf cX6_columnOf 2 (some .int), Cond.methodLink RX4 45 yX4_keepIfBetter, Cond.instanceMethod yX4_keepIfBetter, Cond.selects RX4 yX4_keepIfBetter yX4_keepIfBetter]
def wsX4_searchAround_r4 : List Cond := [Cond.initialized RX4, Cond.code yX4_keepIfBetter cX4_keepIfBetter 8 none, Cond.fieldLink RX4 59 "TouchUp$Patch" "first" "I", Cond.fieldLink RX4 62 "TouchUp$Patch" "last" "I", Cond.methodLink RX4 49 yX2_unpaint, Cond.methodLink RX4 52 yX2_paintOne, Cond.instanceMethod yX2_paintOne, Cond.selects RX2 yX2_paintOne yX2_paintOne, Cond.code yX2_paintOne cX2_paintOne 2 none, Cond.methodLink RX4 55 yX2_isAnySeen, Cond.instanceMethod yX2_isAnySeen, Cond.selects RX2 yX2_isAnySeen yX2_isAnySeen, Cond.code yX2_isAnySeen cX2_isAnySeen 2 (some .boolean), Cond.methodLink RX2 47 yX2_isSeenToRight, Cond.instanceMethod yX2_isSeenToRight, Cond.selects RX2 yX2_isSeenToRight yX2_isSeenToRight, Cond.code yX2_isSeenToRight cX2_isSeenToRight 2 (some .boolean), Cond.fieldLink RX2 58 "TouchUp$Wall" "wide" "I", Cond.methodLink RX2 54 yX6_columnOf, Cond.methodLink RX2 61 yX2_isSeenBetween, Cond.instanceMethod yX2_isSeenBetween, Cond.selects RX2 yX2_isSeenBetween yX2_isSeenBetween, Cond.code yX2_isSeenBetween cX2_isSeenBetween 6 (some .boolean), Cond.methodLink RX2 65 Lib.Math.abs.name]
def wsX4_searchAround_r5 : List Cond := [Cond.static Lib.Math.abs.name, Cond.code Lib.Math.abs.name Lib.Math.abs.code 1 (some .int), Cond.fieldLink RX2 70 "TouchUp$Wall" "line" "I", Cond.methodLink RX2 51 yX2_isSeenBelow, Cond.instanceMethod yX2_isSeenBelow, Cond.selects RX2 yX2_isSeenBelow yX2_isSeenBelow, Cond.code yX2_isSeenBelow cX2_isSeenBelow 2 (some .boolean)]
def wsX4_searchAround : List Cond := .code yX4_searchAround cX4_searchAround 9 none :: ((wsX4_searchAround_r1 ++ (wsX4_searchAround_r2 ++ (wsX4_searchAround_r3 ++ (wsX4_searchAround_r4 ++ wsX4_searchAround_r5)))) ++ wsX40 ++ wsX60 ++ wsX20 ++ wsX00 ++ wsX10)
def wsX5_init : List Cond := .code yX5_init cX5_init 1 none :: ([.methodLink RX5 3 objectInit, .instanceMethod objectInit, .code objectInit ⟨#[0xb1]⟩ 1 none, .arrayClass .int, .fieldLink RX5 9 "TouchUp$Sheet" "row" "[I"] ++ wsX50)
def wsJ7_fill_53178 : List Cond := .code yJ7_fill_53178 cJ7_fill_53178 4 none :: ([])
def wsX5_begin : List Cond := .code yX5_begin cX5_begin 3 none :: ([.fieldLink RX5 15 "TouchUp$Sheet" "has" "Z", .fieldLink RX5 19 "TouchUp$Sheet" "sort" "I", .fieldLink RX5 23 "TouchUp$Sheet" "length" "I", .fieldLink RX5 9 "TouchUp$Sheet" "row" "[I", .methodLink RX5 26 yJ7_fill_53178, .static yJ7_fill_53178, .initialized RJ7, .code yJ7_fill_53178 cJ7_fill_53178 4 none] ++ wsX50)
def wsX5_cut : List Cond := .code yX5_cut cX5_cut 2 (some .int) :: ([.fieldLink RX5 19 "TouchUp$Sheet" "sort" "I"] ++ wsX50)
def wsX5_reaches : List Cond := .code yX5_reaches cX5_reaches 3 (some .boolean) :: ([.fieldLink RX5 23 "TouchUp$Sheet" "length" "I"] ++ wsX50)
def wsX5_faultAs : List Cond := .code yX5_faultAs cX5_faultAs 2 (some .int) :: ([.fieldLink RX5 15 "TouchUp$Sheet" "has" "Z", .fieldLink RX5 19 "TouchUp$Sheet" "sort" "I"] ++ wsX50)
def wsX5_faultOfCells : List Cond := .code yX5_faultOfCells cX5_faultOfCells 5 (some .int) :: ([.methodLink RX5 32 yX5_faultAs, .instanceMethod yX5_faultAs, .selects RX5 yX5_faultAs yX5_faultAs, .initialized RX5, .code yX5_faultAs cX5_faultAs 2 (some .int), .fieldLink RX5 15 "TouchUp$Sheet" "has" "Z", .fieldLink RX5 19 "TouchUp$Sheet" "sort" "I", .methodLink RX5 36 yX5_reaches, .instanceMethod yX5_reaches, .selects RX5 yX5_reaches yX5_reaches, .code yX5_reaches cX5_reaches 3 (some .boolean), .fieldLink RX5 23 "TouchUp$Sheet" "length" "I"] ++ wsX50)
def wsX5_fits : List Cond := .code yX5_fits cX5_fits 2 (some .boolean) :: ([.static yX7_isWithin, .initialized RX7, .code yX7_isWithin cX7_isWithin 3 (some .boolean)])
def wsX5_firstWrongInRows : List Cond := .code yX5_firstWrongInRows cX5_firstWrongInRows 8 (some .int) :: ([.fieldLink RX5 9 "TouchUp$Sheet" "row" "[I", .methodLink RX5 48 yX5_fits, .static yX5_fits, .initialized RX5, .code yX5_fits cX5_fits 2 (some .boolean), .static yX7_isWithin, .initialized RX7, .code yX7_isWithin cX7_isWithin 3 (some .boolean)] ++ wsX50)
def wsX5_firstWrongCode : List Cond := .code yX5_firstWrongCode cX5_firstWrongCode 3 (some .int) :: ([.fieldLink RX5 9 "TouchUp$Sheet" "row" "[I", .static yX7_isWithin, .initialized RX7, .code yX7_isWithin cX7_isWithin 3 (some .boolean), .methodLink RX5 44 yX5_firstWrongInRows, .instanceMethod yX5_firstWrongInRows, .selects RX5 yX5_firstWrongInRows yX5_firstWrongInRows, .initialized RX5, .code yX5_firstWrongInRows cX5_firstWrongInRows 8 (some .int), .methodLink RX5 48 yX5_fits, .static yX5_fits, .code yX5_fits cX5_fits 2 (some .boolean)] ++ wsX50)
def wsX6_init : List Cond := .code yX6_init cX6_init 2 none :: ([.methodLink RX6 3 objectInit, .instanceMethod objectInit, .code objectInit ⟨#[0xb1]⟩ 1 none, .classLink RX6 9 RX0, .fieldLink RX6 11 "TouchUp$Wall" "cells" "[LTouchUp$Cell;", .classLink RX6 17 RX1, .fieldLink RX6 19 "TouchUp$Wall" "coats" "[LTouchUp$Coat;", .arrayClass .int, .fieldLink RX6 23 "TouchUp$Wall" "weights" "[I", .instantiable RX0 5, .initialized RX0, .instantiable RX1 2, .initialized RX1, .instanceMethod yX0_init, .code yX0_init cX0_init 1 none, .methodLink RX0 1 objectInit, .instanceMethod yX1_init, .code yX1_init cX1_init 1 none, .methodLink RX1 3 objectInit, .fieldLink RX1 9 "TouchUp$Coat" "bands" "[I"] ++ wsX60 ++ wsX00 ++ wsX10)
def wsX6_addCoat : List Cond := .code yX6_addCoat cX6_addCoat 6 (some .int) :: ([.fieldLink RX6 19 "TouchUp$Wall" "coats" "[LTouchUp$Coat;", .fieldLink RX6 60 "TouchUp$Wall" "coatCount" "I", .fieldLink RX6 70 "TouchUp$Coat" "kind" "I", .fieldLink RX6 73 "TouchUp$Coat" "bands" "[I"] ++ wsX60 ++ wsX10)
def wsX6_makeAnew_r1 : List Cond := [Cond.fieldLink RX6 29 "TouchUp$Sheet" "row" "[I", Cond.fieldLink RX6 34 "TouchUp$Wall" "high" "I", Cond.fieldLink RX6 38 "TouchUp$Wall" "wide" "I", Cond.fieldLink RX6 41 "TouchUp$Wall" "count" "I", Cond.fieldLink RX6 11 "TouchUp$Wall" "cells" "[LTouchUp$Cell;", Cond.fieldLink RX6 48 "TouchUp$Wall" "year" "I", Cond.fieldLink RX6 51 "TouchUp$Wall" "smoke" "I", Cond.fieldLink RX6 54 "TouchUp$Wall" "line" "I", Cond.fieldLink RX6 57 "TouchUp$Wall" "lightCount" "I", Cond.fieldLink RX6 60 "TouchUp$Wall" "coatCount" "I", Cond.methodLink RX6 44 yX0_begin, Cond.instanceMethod yX0_begin, Cond.selects RX0 yX0_begin yX0_begin, Cond.initialized RX0, Cond.code yX0_begin cX0_begin 2 none, Cond.fieldLink RX0 19 "TouchUp$Cell" "sun" "I", Cond.fieldLink RX0 22 "TouchUp$Cell" "hidden" "Z", Cond.methodLink RX0 26 yX0_takeFresh, Cond.instanceMethod yX0_takeFresh, Cond.selects RX0 yX0_takeFresh yX0_takeFresh, Cond.code yX0_takeFresh cX0_takeFresh 2 none, Cond.fieldLink RX0 7 "TouchUp$Cell" "coat" "I", Cond.fieldLink RX0 13 "TouchUp$Cell" "sunHad" "I", Cond.fieldLink RX0 16 "TouchUp$Cell" "air" "I"]
def wsX6_makeAnew_r2 : List Cond := [Cond.methodLink RX6 63 yX6_addCoat, Cond.instanceMethod yX6_addCoat, Cond.selects RX6 yX6_addCoat yX6_addCoat, Cond.initialized RX6, Cond.code yX6_addCoat cX6_addCoat 6 (some .int), Cond.fieldLink RX6 19 "TouchUp$Wall" "coats" "[LTouchUp$Coat;", Cond.fieldLink RX6 70 "TouchUp$Coat" "kind" "I", Cond.fieldLink RX6 73 "TouchUp$Coat" "bands" "[I"]
def wsX6_makeAnew : List Cond := .code yX6_makeAnew cX6_makeAnew 6 none :: ((wsX6_makeAnew_r1 ++ wsX6_makeAnew_r2) ++ wsX50 ++ wsX60 ++ wsX00 ++ wsX10)
def wsX6_stands : List Cond := .code yX6_stands cX6_stands 1 (some .boolean) :: ([.fieldLink RX6 41 "TouchUp$Wall" "count" "I"] ++ wsX60)
def wsX6_hasCell : List Cond := .code yX6_hasCell cX6_hasCell 2 (some .boolean) :: ([.fieldLink RX6 41 "TouchUp$Wall" "count" "I"] ++ wsX60)
def wsX6_hasLight : List Cond := .code yX6_hasLight cX6_hasLight 2 (some .boolean) :: ([.fieldLink RX6 57 "TouchUp$Wall" "lightCount" "I"] ++ wsX60)
def wsX6_age : List Cond := .code yX6_age cX6_age 3 none :: ([.fieldLink RX6 48 "TouchUp$Wall" "year" "I", .fieldLink RX6 41 "TouchUp$Wall" "count" "I", .fieldLink RX6 11 "TouchUp$Wall" "cells" "[LTouchUp$Cell;", .methodLink RX6 67 yX0_age, .instanceMethod yX0_age, .selects RX0 yX0_age yX0_age, .initialized RX0, .code yX0_age cX0_age 2 none, .fieldLink RX0 22 "TouchUp$Cell" "hidden" "Z", .fieldLink RX0 13 "TouchUp$Cell" "sunHad" "I", .fieldLink RX0 19 "TouchUp$Cell" "sun" "I", .fieldLink RX0 16 "TouchUp$Cell" "air" "I"] ++ wsX60 ++ wsX00)
def wsX6_addLight : List Cond := .code yX6_addLight cX6_addLight 5 (some .int) :: ([.fieldLink RX6 57 "TouchUp$Wall" "lightCount" "I", .fieldLink RX6 23 "TouchUp$Wall" "weights" "[I"] ++ wsX60)
def wsX6_apartFresh_r1 : List Cond := [Cond.fieldLink RX6 19 "TouchUp$Wall" "coats" "[LTouchUp$Coat;", Cond.methodLink RX6 97 Lib.Math.abs.name, Cond.static Lib.Math.abs.name, Cond.initialized "java/lang/Math", Cond.code Lib.Math.abs.name Lib.Math.abs.code 1 (some .int), Cond.methodLink RX6 89 yX6_lookOfCoat, Cond.instanceMethod yX6_lookOfCoat, Cond.selects RX6 yX6_lookOfCoat yX6_lookOfCoat, Cond.initialized RX6, Cond.code yX6_lookOfCoat cX6_lookOfCoat 8 (some .int), Cond.fieldLink RX6 51 "TouchUp$Wall" "smoke" "I", Cond.fieldLink RX6 23 "TouchUp$Wall" "weights" "[I", Cond.methodLink RX6 76 yX1_comesBack, Cond.instanceMethod yX1_comesBack, Cond.selects RX1 yX1_comesBack yX1_comesBack, Cond.initialized RX1, Cond.code yX1_comesBack cX1_comesBack 7 (some .int), Cond.fieldLink RX1 9 "TouchUp$Coat" "bands" "[I", Cond.methodLink RX1 23 Lib.Math.max.name, Cond.static Lib.Math.max.name, Cond.code Lib.Math.max.name Lib.Math.max.code 2 (some .int), Cond.fieldLink RX1 15 "TouchUp$Coat" "kind" "I", Cond.methodLink RX1 19 yX1_lossIn, Cond.instanceMethod yX1_lossIn]
def wsX6_apartFresh_r2 : List Cond := [Cond.selects RX1 yX1_lossIn yX1_lossIn, Cond.code yX1_lossIn cX1_lossIn 6 (some .int)]
def wsX6_apartFresh : List Cond := .code yX6_apartFresh cX6_apartFresh 4 (some .int) :: ((wsX6_apartFresh_r1 ++ wsX6_apartFresh_r2) ++ wsX60 ++ wsX10)
def wsX6_areTraitors_r1 : List Cond := [Cond.fieldLink RX6 54 "TouchUp$Wall" "line" "I", Cond.methodLink RX6 93 yX6_apartFresh, Cond.instanceMethod yX6_apartFresh, Cond.selects RX6 yX6_apartFresh yX6_apartFresh, Cond.initialized RX6, Cond.code yX6_apartFresh cX6_apartFresh 4 (some .int), Cond.fieldLink RX6 19 "TouchUp$Wall" "coats" "[LTouchUp$Coat;", Cond.methodLink RX6 97 Lib.Math.abs.name, Cond.static Lib.Math.abs.name, Cond.initialized "java/lang/Math", Cond.code Lib.Math.abs.name Lib.Math.abs.code 1 (some .int), Cond.methodLink RX6 89 yX6_lookOfCoat, Cond.instanceMethod yX6_lookOfCoat, Cond.selects RX6 yX6_lookOfCoat yX6_lookOfCoat, Cond.code yX6_lookOfCoat cX6_lookOfCoat 8 (some .int), Cond.fieldLink RX6 51 "TouchUp$Wall" "smoke" "I", Cond.fieldLink RX6 23 "TouchUp$Wall" "weights" "[I", Cond.methodLink RX6 76 yX1_comesBack, Cond.instanceMethod yX1_comesBack, Cond.selects RX1 yX1_comesBack yX1_comesBack, Cond.initialized RX1, Cond.code yX1_comesBack cX1_comesBack 7 (some .int), Cond.fieldLink RX1 9 "TouchUp$Coat" "bands" "[I", Cond.methodLink RX1 23 Lib.Math.max.name]
def wsX6_areTraitors_r2 : List Cond := [Cond.static Lib.Math.max.name, Cond.code Lib.Math.max.name Lib.Math.max.code 2 (some .int), Cond.fieldLink RX1 15 "TouchUp$Coat" "kind" "I", Cond.methodLink RX1 19 yX1_lossIn, Cond.instanceMethod yX1_lossIn, Cond.selects RX1 yX1_lossIn yX1_lossIn, Cond.code yX1_lossIn cX1_lossIn 6 (some .int)]
def wsX6_areTraitors : List Cond := .code yX6_areTraitors cX6_areTraitors 5 (some .boolean) :: ((wsX6_areTraitors_r1 ++ wsX6_areTraitors_r2) ++ wsX60 ++ wsX10)
def wsX7_init_r1 : List Cond := [Cond.methodLink RX7 5 objectInit, Cond.instanceMethod objectInit, Cond.code objectInit ⟨#[0xb1]⟩ 1 none, Cond.classLink RX7 11 RX5, Cond.fieldLink RX7 13 "TouchUp" "sheets" "[LTouchUp$Sheet;", Cond.classLink RX7 17 RX6, Cond.instantiable RX6 11, Cond.initialized RX6, Cond.fieldLink RX7 20 "TouchUp" "wall" "LTouchUp$Wall;", Cond.classLink RX7 24 RX2, Cond.instantiable RX2 3, Cond.initialized RX2, Cond.fieldLink RX7 29 "TouchUp" "edges" "LTouchUp$Edges;", Cond.classLink RX7 33 RX3, Cond.instantiable RX3 7, Cond.initialized RX3, Cond.fieldLink RX7 36 "TouchUp" "mixer" "LTouchUp$Mixer;", Cond.classLink RX7 40 RX4, Cond.instantiable RX4 5, Cond.initialized RX4, Cond.fieldLink RX7 45 "TouchUp" "patch" "LTouchUp$Patch;", Cond.instantiable RX5 4, Cond.initialized RX5, Cond.methodLink RX7 19 yX6_init]
def wsX7_init_r2 : List Cond := [Cond.instanceMethod yX6_init, Cond.code yX6_init cX6_init 2 none, Cond.methodLink RX6 3 objectInit, Cond.classLink RX6 9 RX0, Cond.fieldLink RX6 11 "TouchUp$Wall" "cells" "[LTouchUp$Cell;", Cond.classLink RX6 17 RX1, Cond.fieldLink RX6 19 "TouchUp$Wall" "coats" "[LTouchUp$Coat;", Cond.arrayClass .int, Cond.fieldLink RX6 23 "TouchUp$Wall" "weights" "[I", Cond.instantiable RX0 5, Cond.initialized RX0, Cond.instantiable RX1 2, Cond.initialized RX1, Cond.instanceMethod yX0_init, Cond.code yX0_init cX0_init 1 none, Cond.methodLink RX0 1 objectInit, Cond.instanceMethod yX1_init, Cond.code yX1_init cX1_init 1 none, Cond.methodLink RX1 3 objectInit, Cond.fieldLink RX1 9 "TouchUp$Coat" "bands" "[I", Cond.methodLink RX7 26 yX2_init, Cond.instanceMethod yX2_init, Cond.code yX2_init cX2_init 2 none, Cond.methodLink RX2 3 objectInit]
def wsX7_init_r3 : List Cond := [Cond.fieldLink RX2 9 "TouchUp$Edges" "looks" "[I", Cond.fieldLink RX2 15 "TouchUp$Edges" "shows" "[I", Cond.fieldLink RX2 18 "TouchUp$Edges" "wall" "LTouchUp$Wall;", Cond.methodLink RX7 35 yX3_init, Cond.instanceMethod yX3_init, Cond.code yX3_init cX3_init 2 none, Cond.methodLink RX3 3 objectInit, Cond.fieldLink RX3 9 "TouchUp$Mixer" "drops" "[I", Cond.classLink RX3 15 RX1, Cond.fieldLink RX3 18 "TouchUp$Mixer" "mixed" "LTouchUp$Coat;", Cond.fieldLink RX3 22 "TouchUp$Mixer" "now" "[I", Cond.fieldLink RX3 25 "TouchUp$Mixer" "bestDrops" "[I", Cond.fieldLink RX3 28 "TouchUp$Mixer" "wall" "LTouchUp$Wall;", Cond.methodLink RX7 42 yX4_init, Cond.instanceMethod yX4_init, Cond.code yX4_init cX4_init 3 none, Cond.methodLink RX4 1 objectInit, Cond.fieldLink RX4 7 "TouchUp$Patch" "wall" "LTouchUp$Wall;", Cond.fieldLink RX4 13 "TouchUp$Patch" "edges" "LTouchUp$Edges;", Cond.instanceMethod yX5_init, Cond.code yX5_init cX5_init 1 none, Cond.methodLink RX5 3 objectInit, Cond.fieldLink RX5 9 "TouchUp$Sheet" "row" "[I"]
def wsX7_init : List Cond := .code yX7_init cX7_init 2 none :: ((wsX7_init_r1 ++ (wsX7_init_r2 ++ wsX7_init_r3)) ++ wsX70 ++ wsX60 ++ wsX20 ++ wsX30 ++ wsX40 ++ wsX50 ++ wsX00 ++ wsX10)
def wsX7_isSheet : List Cond := .code yX7_isSheet cX7_isSheet 1 (some .boolean) :: ([.methodLink RX7 108 yX7_isWithin, .static yX7_isWithin, .initialized RX7, .code yX7_isWithin cX7_isWithin 3 (some .boolean)])
def wsX7_isSort : List Cond := .code yX7_isSort cX7_isSort 1 (some .boolean) :: ([.methodLink RX7 108 yX7_isWithin, .static yX7_isWithin, .initialized RX7, .code yX7_isWithin cX7_isWithin 3 (some .boolean)])
def wsX7_failed : List Cond := .code yX7_failed cX7_failed 2 (some .int) :: ([.fieldLink RX7 50 "TouchUp" "latestFault" "I"] ++ wsX70)
def wsX7_wall_r1 : List Cond := [Cond.fieldLink RX7 50 "TouchUp" "latestFault" "I", Cond.fieldLink RX7 13 "TouchUp" "sheets" "[LTouchUp$Sheet;", Cond.fieldLink RX7 20 "TouchUp" "wall" "LTouchUp$Wall;", Cond.fieldLink RX7 80 "TouchUp$Wall" "count" "I", Cond.methodLink RX7 54 yX7_isSheet, Cond.static yX7_isSheet, Cond.initialized RX7, Cond.code yX7_isSheet cX7_isSheet 1 (some .boolean), Cond.methodLink RX7 108 yX7_isWithin, Cond.static yX7_isWithin, Cond.code yX7_isWithin cX7_isWithin 3 (some .boolean), Cond.methodLink RX7 58 yX7_isSort, Cond.static yX7_isSort, Cond.code yX7_isSort cX7_isSort 1 (some .boolean), Cond.methodLink RX7 61 yX5_faultAs, Cond.instanceMethod yX5_faultAs, Cond.selects RX5 yX5_faultAs yX5_faultAs, Cond.initialized RX5, Cond.code yX5_faultAs cX5_faultAs 2 (some .int), Cond.fieldLink RX5 15 "TouchUp$Sheet" "has" "Z", Cond.fieldLink RX5 19 "TouchUp$Sheet" "sort" "I", Cond.methodLink RX7 65 yX5_reaches, Cond.instanceMethod yX5_reaches, Cond.selects RX5 yX5_reaches yX5_reaches]
def wsX7_wall_r2 : List Cond := [Cond.code yX5_reaches cX5_reaches 3 (some .boolean), Cond.fieldLink RX5 23 "TouchUp$Sheet" "length" "I", Cond.methodLink RX7 69 yX7_failed, Cond.instanceMethod yX7_failed, Cond.selects RX7 yX7_failed yX7_failed, Cond.code yX7_failed cX7_failed 2 (some .int), Cond.methodLink RX7 72 yX5_firstWrongCode, Cond.instanceMethod yX5_firstWrongCode, Cond.selects RX5 yX5_firstWrongCode yX5_firstWrongCode, Cond.code yX5_firstWrongCode cX5_firstWrongCode 3 (some .int), Cond.fieldLink RX5 9 "TouchUp$Sheet" "row" "[I", Cond.methodLink RX5 44 yX5_firstWrongInRows, Cond.instanceMethod yX5_firstWrongInRows, Cond.selects RX5 yX5_firstWrongInRows yX5_firstWrongInRows, Cond.code yX5_firstWrongInRows cX5_firstWrongInRows 8 (some .int), Cond.methodLink RX5 48 yX5_fits, Cond.static yX5_fits, Cond.code yX5_fits cX5_fits 2 (some .boolean), Cond.methodLink RX7 76 yX6_makeAnew, Cond.instanceMethod yX6_makeAnew, Cond.selects RX6 yX6_makeAnew yX6_makeAnew, Cond.initialized RX6, Cond.code yX6_makeAnew cX6_makeAnew 6 none, Cond.fieldLink RX6 29 "TouchUp$Sheet" "row" "[I"]
def wsX7_wall_r3 : List Cond := [Cond.fieldLink RX6 34 "TouchUp$Wall" "high" "I", Cond.fieldLink RX6 38 "TouchUp$Wall" "wide" "I", Cond.fieldLink RX6 41 "TouchUp$Wall" "count" "I", Cond.fieldLink RX6 11 "TouchUp$Wall" "cells" "[LTouchUp$Cell;", Cond.fieldLink RX6 48 "TouchUp$Wall" "year" "I", Cond.fieldLink RX6 51 "TouchUp$Wall" "smoke" "I", Cond.fieldLink RX6 54 "TouchUp$Wall" "line" "I", Cond.fieldLink RX6 57 "TouchUp$Wall" "lightCount" "I", Cond.fieldLink RX6 60 "TouchUp$Wall" "coatCount" "I", Cond.methodLink RX6 44 yX0_begin, Cond.instanceMethod yX0_begin, Cond.selects RX0 yX0_begin yX0_begin, Cond.initialized RX0, Cond.code yX0_begin cX0_begin 2 none, Cond.fieldLink RX0 19 "TouchUp$Cell" "sun" "I", Cond.fieldLink RX0 22 "TouchUp$Cell" "hidden" "Z", Cond.methodLink RX0 26 yX0_takeFresh, Cond.instanceMethod yX0_takeFresh, Cond.selects RX0 yX0_takeFresh yX0_takeFresh, Cond.code yX0_takeFresh cX0_takeFresh 2 none, Cond.fieldLink RX0 7 "TouchUp$Cell" "coat" "I", Cond.fieldLink RX0 13 "TouchUp$Cell" "sunHad" "I", Cond.fieldLink RX0 16 "TouchUp$Cell" "air" "I", Cond.methodLink RX6 63 yX6_addCoat]
def wsX7_wall_r4 : List Cond := [Cond.instanceMethod yX6_addCoat, Cond.selects RX6 yX6_addCoat yX6_addCoat, Cond.code yX6_addCoat cX6_addCoat 6 (some .int), Cond.fieldLink RX6 19 "TouchUp$Wall" "coats" "[LTouchUp$Coat;", Cond.fieldLink RX6 70 "TouchUp$Coat" "kind" "I", Cond.fieldLink RX6 73 "TouchUp$Coat" "bands" "[I"]
def wsX7_wall : List Cond := .code yX7_wall cX7_wall 8 (some .int) :: ((wsX7_wall_r1 ++ (wsX7_wall_r2 ++ (wsX7_wall_r3 ++ wsX7_wall_r4))) ++ wsX70 ++ wsX60 ++ wsX50 ++ wsX00 ++ wsX10)
def wsX7_ofCell : List Cond := .code yX7_ofCell cX7_ofCell 4 (some .int) :: ([.fieldLink RX7 20 "TouchUp" "wall" "LTouchUp$Wall;", .fieldLink RX7 86 "TouchUp$Wall" "cells" "[LTouchUp$Cell;", .fieldLink RX7 90 "TouchUp$Cell" "sun" "I", .fieldLink RX7 95 "TouchUp$Cell" "coat" "I", .fieldLink RX7 98 "TouchUp$Cell" "sunHad" "I", .fieldLink RX7 101 "TouchUp$Cell" "air" "I", .fieldLink RX7 104 "TouchUp$Cell" "hidden" "Z", .methodLink RX7 83 yX6_hasCell, .instanceMethod yX6_hasCell, .selects RX6 yX6_hasCell yX6_hasCell, .initialized RX6, .code yX6_hasCell cX6_hasCell 2 (some .boolean), .fieldLink RX6 41 "TouchUp$Wall" "count" "I"] ++ wsX70 ++ wsX60 ++ wsX00)
def wsX7_set : List Cond := .code yX7_set cX7_set 4 (some .int) :: ([.fieldLink RX7 20 "TouchUp" "wall" "LTouchUp$Wall;", .fieldLink RX7 116 "TouchUp$Wall" "smoke" "I", .fieldLink RX7 119 "TouchUp$Wall" "line" "I", .methodLink RX7 108 yX7_isWithin, .static yX7_isWithin, .initialized RX7, .code yX7_isWithin cX7_isWithin 3 (some .boolean), .methodLink RX7 112 yX6_stands, .instanceMethod yX6_stands, .selects RX6 yX6_stands yX6_stands, .initialized RX6, .code yX6_stands cX6_stands 1 (some .boolean), .fieldLink RX6 41 "TouchUp$Wall" "count" "I"] ++ wsX70 ++ wsX60)
def wsX7_years_r1 : List Cond := [Cond.fieldLink RX7 20 "TouchUp" "wall" "LTouchUp$Wall;", Cond.fieldLink RX7 122 "TouchUp$Wall" "year" "I", Cond.methodLink RX7 108 yX7_isWithin, Cond.static yX7_isWithin, Cond.initialized RX7, Cond.code yX7_isWithin cX7_isWithin 3 (some .boolean), Cond.methodLink RX7 112 yX6_stands, Cond.instanceMethod yX6_stands, Cond.selects RX6 yX6_stands yX6_stands, Cond.initialized RX6, Cond.code yX6_stands cX6_stands 1 (some .boolean), Cond.fieldLink RX6 41 "TouchUp$Wall" "count" "I", Cond.methodLink RX7 125 yX6_age, Cond.instanceMethod yX6_age, Cond.selects RX6 yX6_age yX6_age, Cond.code yX6_age cX6_age 3 none, Cond.fieldLink RX6 48 "TouchUp$Wall" "year" "I", Cond.fieldLink RX6 11 "TouchUp$Wall" "cells" "[LTouchUp$Cell;", Cond.methodLink RX6 67 yX0_age, Cond.instanceMethod yX0_age, Cond.selects RX0 yX0_age yX0_age, Cond.initialized RX0, Cond.code yX0_age cX0_age 2 none, Cond.fieldLink RX0 22 "TouchUp$Cell" "hidden" "Z"]
def wsX7_years_r2 : List Cond := [Cond.fieldLink RX0 13 "TouchUp$Cell" "sunHad" "I", Cond.fieldLink RX0 19 "TouchUp$Cell" "sun" "I", Cond.fieldLink RX0 16 "TouchUp$Cell" "air" "I"]
def wsX7_years : List Cond := .code yX7_years cX7_years 2 (some .int) :: ((wsX7_years_r1 ++ wsX7_years_r2) ++ wsX70 ++ wsX60 ++ wsX00)
def wsX7_hang : List Cond := .code yX7_hang cX7_hang 5 (some .int) :: ([.fieldLink RX7 20 "TouchUp" "wall" "LTouchUp$Wall;", .fieldLink RX7 86 "TouchUp$Wall" "cells" "[LTouchUp$Cell;", .fieldLink RX7 104 "TouchUp$Cell" "hidden" "Z", .methodLink RX7 83 yX6_hasCell, .instanceMethod yX6_hasCell, .selects RX6 yX6_hasCell yX6_hasCell, .initialized RX6, .code yX6_hasCell cX6_hasCell 2 (some .boolean), .fieldLink RX6 41 "TouchUp$Wall" "count" "I"] ++ wsX70 ++ wsX60 ++ wsX00)
def wsX7_isKind : List Cond := .code yX7_isKind cX7_isKind 1 (some .boolean) :: ([.methodLink RX7 108 yX7_isWithin, .static yX7_isWithin, .initialized RX7, .code yX7_isWithin cX7_isWithin 3 (some .boolean)])
def wsX7_areWithin : List Cond := .code yX7_areWithin cX7_areWithin 4 (some .boolean) :: ([.methodLink RX7 108 yX7_isWithin, .static yX7_isWithin, .initialized RX7, .code yX7_isWithin cX7_isWithin 3 (some .boolean)])
def wsX7_coat_r1 : List Cond := [Cond.fieldLink RX7 20 "TouchUp" "wall" "LTouchUp$Wall;", Cond.fieldLink RX7 136 "TouchUp$Wall" "coatCount" "I", Cond.methodLink RX7 129 yX7_isKind, Cond.static yX7_isKind, Cond.initialized RX7, Cond.code yX7_isKind cX7_isKind 1 (some .boolean), Cond.methodLink RX7 108 yX7_isWithin, Cond.static yX7_isWithin, Cond.code yX7_isWithin cX7_isWithin 3 (some .boolean), Cond.methodLink RX7 132 yX7_areWithin, Cond.static yX7_areWithin, Cond.code yX7_areWithin cX7_areWithin 4 (some .boolean), Cond.methodLink RX7 112 yX6_stands, Cond.instanceMethod yX6_stands, Cond.selects RX6 yX6_stands yX6_stands, Cond.initialized RX6, Cond.code yX6_stands cX6_stands 1 (some .boolean), Cond.fieldLink RX6 41 "TouchUp$Wall" "count" "I", Cond.methodLink RX7 139 yX6_addCoat, Cond.instanceMethod yX6_addCoat, Cond.selects RX6 yX6_addCoat yX6_addCoat, Cond.code yX6_addCoat cX6_addCoat 6 (some .int), Cond.fieldLink RX6 19 "TouchUp$Wall" "coats" "[LTouchUp$Coat;", Cond.fieldLink RX6 60 "TouchUp$Wall" "coatCount" "I"]
def wsX7_coat_r2 : List Cond := [Cond.fieldLink RX6 70 "TouchUp$Coat" "kind" "I", Cond.fieldLink RX6 73 "TouchUp$Coat" "bands" "[I"]
def wsX7_coat : List Cond := .code yX7_coat cX7_coat 5 (some .int) :: ((wsX7_coat_r1 ++ wsX7_coat_r2) ++ wsX70 ++ wsX60 ++ wsX10)
def wsX7_ofCoat : List Cond := .code yX7_ofCoat cX7_ofCoat 4 (some .int) :: ([.fieldLink RX7 20 "TouchUp" "wall" "LTouchUp$Wall;", .fieldLink RX7 146 "TouchUp$Wall" "coats" "[LTouchUp$Coat;", .fieldLink RX7 150 "TouchUp$Coat" "kind" "I", .fieldLink RX7 155 "TouchUp$Coat" "bands" "[I", .methodLink RX7 143 yX6_hasCoat, .instanceMethod yX6_hasCoat, .selects RX6 yX6_hasCoat yX6_hasCoat, .initialized RX6, .code yX6_hasCoat cX6_hasCoat 2 (some .boolean), .fieldLink RX6 60 "TouchUp$Wall" "coatCount" "I", .methodLink RX7 108 yX7_isWithin, .static yX7_isWithin, .initialized RX7, .code yX7_isWithin cX7_isWithin 3 (some .boolean)] ++ wsX70 ++ wsX60 ++ wsX10)
def wsX7_paint : List Cond := .code yX7_paint cX7_paint 5 (some .int) :: ([.fieldLink RX7 20 "TouchUp" "wall" "LTouchUp$Wall;", .fieldLink RX7 86 "TouchUp$Wall" "cells" "[LTouchUp$Cell;", .fieldLink RX7 95 "TouchUp$Cell" "coat" "I", .methodLink RX7 83 yX6_hasCell, .instanceMethod yX6_hasCell, .selects RX6 yX6_hasCell yX6_hasCell, .initialized RX6, .code yX6_hasCell cX6_hasCell 2 (some .boolean), .fieldLink RX6 41 "TouchUp$Wall" "count" "I", .methodLink RX7 143 yX6_hasCoat, .instanceMethod yX6_hasCoat, .selects RX6 yX6_hasCoat yX6_hasCoat, .code yX6_hasCoat cX6_hasCoat 2 (some .boolean), .fieldLink RX6 60 "TouchUp$Wall" "coatCount" "I", .methodLink RX7 159 yX0_takeFresh, .instanceMethod yX0_takeFresh, .selects RX0 yX0_takeFresh yX0_takeFresh, .initialized RX0, .code yX0_takeFresh cX0_takeFresh 2 none, .fieldLink RX0 7 "TouchUp$Cell" "coat" "I", .fieldLink RX0 13 "TouchUp$Cell" "sunHad" "I", .fieldLink RX0 16 "TouchUp$Cell" "air" "I"] ++ wsX70 ++ wsX60 ++ wsX00)
def wsX7_back_r1 : List Cond := [Cond.fieldLink RX7 20 "TouchUp" "wall" "LTouchUp$Wall;", Cond.fieldLink RX7 86 "TouchUp$Wall" "cells" "[LTouchUp$Cell;", Cond.fieldLink RX7 146 "TouchUp$Wall" "coats" "[LTouchUp$Coat;", Cond.fieldLink RX7 95 "TouchUp$Cell" "coat" "I", Cond.fieldLink RX7 98 "TouchUp$Cell" "sunHad" "I", Cond.fieldLink RX7 101 "TouchUp$Cell" "air" "I", Cond.fieldLink RX7 116 "TouchUp$Wall" "smoke" "I", Cond.methodLink RX7 83 yX6_hasCell, Cond.instanceMethod yX6_hasCell, Cond.selects RX6 yX6_hasCell yX6_hasCell, Cond.initialized RX6, Cond.code yX6_hasCell cX6_hasCell 2 (some .boolean), Cond.fieldLink RX6 41 "TouchUp$Wall" "count" "I", Cond.methodLink RX7 108 yX7_isWithin, Cond.static yX7_isWithin, Cond.initialized RX7, Cond.code yX7_isWithin cX7_isWithin 3 (some .boolean), Cond.methodLink RX7 162 yX1_comesBack, Cond.instanceMethod yX1_comesBack, Cond.selects RX1 yX1_comesBack yX1_comesBack, Cond.initialized RX1, Cond.code yX1_comesBack cX1_comesBack 7 (some .int), Cond.fieldLink RX1 9 "TouchUp$Coat" "bands" "[I", Cond.methodLink RX1 23 Lib.Math.max.name]
def wsX7_back_r2 : List Cond := [Cond.static Lib.Math.max.name, Cond.initialized "java/lang/Math", Cond.code Lib.Math.max.name Lib.Math.max.code 2 (some .int), Cond.fieldLink RX1 15 "TouchUp$Coat" "kind" "I", Cond.methodLink RX1 19 yX1_lossIn, Cond.instanceMethod yX1_lossIn, Cond.selects RX1 yX1_lossIn yX1_lossIn, Cond.code yX1_lossIn cX1_lossIn 6 (some .int)]
def wsX7_back : List Cond := .code yX7_back cX7_back 5 (some .int) :: ((wsX7_back_r1 ++ wsX7_back_r2) ++ wsX70 ++ wsX60 ++ wsX00 ++ wsX10)
def wsX7_light : List Cond := .code yX7_light cX7_light 4 (some .int) :: ([.fieldLink RX7 20 "TouchUp" "wall" "LTouchUp$Wall;", .fieldLink RX7 166 "TouchUp$Wall" "lightCount" "I", .methodLink RX7 132 yX7_areWithin, .static yX7_areWithin, .initialized RX7, .code yX7_areWithin cX7_areWithin 4 (some .boolean), .methodLink RX7 108 yX7_isWithin, .static yX7_isWithin, .code yX7_isWithin cX7_isWithin 3 (some .boolean), .methodLink RX7 112 yX6_stands, .instanceMethod yX6_stands, .selects RX6 yX6_stands yX6_stands, .initialized RX6, .code yX6_stands cX6_stands 1 (some .boolean), .fieldLink RX6 41 "TouchUp$Wall" "count" "I", .methodLink RX7 169 yX6_addLight, .instanceMethod yX6_addLight, .selects RX6 yX6_addLight yX6_addLight, .code yX6_addLight cX6_addLight 5 (some .int), .fieldLink RX6 57 "TouchUp$Wall" "lightCount" "I", .fieldLink RX6 23 "TouchUp$Wall" "weights" "[I"] ++ wsX70 ++ wsX60)
def wsX7_look_r1 : List Cond := [Cond.fieldLink RX7 20 "TouchUp" "wall" "LTouchUp$Wall;", Cond.methodLink RX7 83 yX6_hasCell, Cond.instanceMethod yX6_hasCell, Cond.selects RX6 yX6_hasCell yX6_hasCell, Cond.initialized RX6, Cond.code yX6_hasCell cX6_hasCell 2 (some .boolean), Cond.fieldLink RX6 41 "TouchUp$Wall" "count" "I", Cond.methodLink RX7 173 yX6_hasLight, Cond.instanceMethod yX6_hasLight, Cond.selects RX6 yX6_hasLight yX6_hasLight, Cond.code yX6_hasLight cX6_hasLight 2 (some .boolean), Cond.fieldLink RX6 57 "TouchUp$Wall" "lightCount" "I", Cond.methodLink RX7 176 yX6_lookOfCell, Cond.instanceMethod yX6_lookOfCell, Cond.selects RX6 yX6_lookOfCell yX6_lookOfCell, Cond.code yX6_lookOfCell cX6_lookOfCell 5 (some .int), Cond.fieldLink RX6 11 "TouchUp$Wall" "cells" "[LTouchUp$Cell;", Cond.fieldLink RX6 19 "TouchUp$Wall" "coats" "[LTouchUp$Coat;", Cond.fieldLink RX6 80 "TouchUp$Cell" "coat" "I", Cond.fieldLink RX6 83 "TouchUp$Cell" "sunHad" "I", Cond.fieldLink RX6 86 "TouchUp$Cell" "air" "I", Cond.methodLink RX6 89 yX6_lookOfCoat, Cond.instanceMethod yX6_lookOfCoat, Cond.selects RX6 yX6_lookOfCoat yX6_lookOfCoat]
def wsX7_look_r2 : List Cond := [Cond.code yX6_lookOfCoat cX6_lookOfCoat 8 (some .int), Cond.fieldLink RX6 51 "TouchUp$Wall" "smoke" "I", Cond.fieldLink RX6 23 "TouchUp$Wall" "weights" "[I", Cond.methodLink RX6 76 yX1_comesBack, Cond.instanceMethod yX1_comesBack, Cond.selects RX1 yX1_comesBack yX1_comesBack, Cond.initialized RX1, Cond.code yX1_comesBack cX1_comesBack 7 (some .int), Cond.fieldLink RX1 9 "TouchUp$Coat" "bands" "[I", Cond.methodLink RX1 23 Lib.Math.max.name, Cond.static Lib.Math.max.name, Cond.initialized "java/lang/Math", Cond.code Lib.Math.max.name Lib.Math.max.code 2 (some .int), Cond.fieldLink RX1 15 "TouchUp$Coat" "kind" "I", Cond.methodLink RX1 19 yX1_lossIn, Cond.instanceMethod yX1_lossIn, Cond.selects RX1 yX1_lossIn yX1_lossIn, Cond.code yX1_lossIn cX1_lossIn 6 (some .int)]
def wsX7_look : List Cond := .code yX7_look cX7_look 4 (some .int) :: ((wsX7_look_r1 ++ wsX7_look_r2) ++ wsX70 ++ wsX60 ++ wsX00 ++ wsX10)
def wsX7_unlike_r1 : List Cond := [Cond.fieldLink RX7 20 "TouchUp" "wall" "LTouchUp$Wall;", Cond.methodLink RX7 180 Lib.Math.abs.name, Cond.static Lib.Math.abs.name, Cond.initialized "java/lang/Math", Cond.code Lib.Math.abs.name Lib.Math.abs.code 1 (some .int), Cond.methodLink RX7 83 yX6_hasCell, Cond.instanceMethod yX6_hasCell, Cond.selects RX6 yX6_hasCell yX6_hasCell, Cond.initialized RX6, Cond.code yX6_hasCell cX6_hasCell 2 (some .boolean), Cond.fieldLink RX6 41 "TouchUp$Wall" "count" "I", Cond.methodLink RX7 173 yX6_hasLight, Cond.instanceMethod yX6_hasLight, Cond.selects RX6 yX6_hasLight yX6_hasLight, Cond.code yX6_hasLight cX6_hasLight 2 (some .boolean), Cond.fieldLink RX6 57 "TouchUp$Wall" "lightCount" "I", Cond.methodLink RX7 176 yX6_lookOfCell, Cond.instanceMethod yX6_lookOfCell, Cond.selects RX6 yX6_lookOfCell yX6_lookOfCell, Cond.code yX6_lookOfCell cX6_lookOfCell 5 (some .int), Cond.fieldLink RX6 11 "TouchUp$Wall" "cells" "[LTouchUp$Cell;", Cond.fieldLink RX6 19 "TouchUp$Wall" "coats" "[LTouchUp$Coat;", Cond.fieldLink RX6 80 "TouchUp$Cell" "coat" "I", Cond.fieldLink RX6 83 "TouchUp$Cell" "sunHad" "I"]
def wsX7_unlike_r2 : List Cond := [Cond.fieldLink RX6 86 "TouchUp$Cell" "air" "I", Cond.methodLink RX6 89 yX6_lookOfCoat, Cond.instanceMethod yX6_lookOfCoat, Cond.selects RX6 yX6_lookOfCoat yX6_lookOfCoat, Cond.code yX6_lookOfCoat cX6_lookOfCoat 8 (some .int), Cond.fieldLink RX6 51 "TouchUp$Wall" "smoke" "I", Cond.fieldLink RX6 23 "TouchUp$Wall" "weights" "[I", Cond.methodLink RX6 76 yX1_comesBack, Cond.instanceMethod yX1_comesBack, Cond.selects RX1 yX1_comesBack yX1_comesBack, Cond.initialized RX1, Cond.code yX1_comesBack cX1_comesBack 7 (some .int), Cond.fieldLink RX1 9 "TouchUp$Coat" "bands" "[I", Cond.methodLink RX1 23 Lib.Math.max.name, Cond.static Lib.Math.max.name, Cond.code Lib.Math.max.name Lib.Math.max.code 2 (some .int), Cond.fieldLink RX1 15 "TouchUp$Coat" "kind" "I", Cond.methodLink RX1 19 yX1_lossIn, Cond.instanceMethod yX1_lossIn, Cond.selects RX1 yX1_lossIn yX1_lossIn, Cond.code yX1_lossIn cX1_lossIn 6 (some .int)]
def wsX7_unlike : List Cond := .code yX7_unlike cX7_unlike 5 (some .int) :: ((wsX7_unlike_r1 ++ wsX7_unlike_r2) ++ wsX70 ++ wsX60 ++ wsX00 ++ wsX10)
def wsX7_seen_r1 : List Cond := [Cond.fieldLink RX7 20 "TouchUp" "wall" "LTouchUp$Wall;", Cond.fieldLink RX7 29 "TouchUp" "edges" "LTouchUp$Edges;", Cond.methodLink RX7 83 yX6_hasCell, Cond.instanceMethod yX6_hasCell, Cond.selects RX6 yX6_hasCell yX6_hasCell, Cond.initialized RX6, Cond.code yX6_hasCell cX6_hasCell 2 (some .boolean), Cond.fieldLink RX6 41 "TouchUp$Wall" "count" "I", Cond.methodLink RX7 185 yX2_takeAsItIs, Cond.instanceMethod yX2_takeAsItIs, Cond.selects RX2 yX2_takeAsItIs yX2_takeAsItIs, Cond.initialized RX2, Cond.code yX2_takeAsItIs cX2_takeAsItIs 3 none, Cond.fieldLink RX2 18 "TouchUp$Edges" "wall" "LTouchUp$Wall;", Cond.fieldLink RX2 22 "TouchUp$Wall" "count" "I", Cond.fieldLink RX2 9 "TouchUp$Edges" "looks" "[I", Cond.methodLink RX2 28 yX6_views, Cond.instanceMethod yX6_views, Cond.selects RX6 yX6_views yX6_views, Cond.code yX6_views cX6_views 1 (some .int), Cond.fieldLink RX6 57 "TouchUp$Wall" "lightCount" "I", Cond.methodLink RX2 32 yX6_lookOfCell, Cond.instanceMethod yX6_lookOfCell, Cond.selects RX6 yX6_lookOfCell yX6_lookOfCell]
def wsX7_seen_r2 : List Cond := [Cond.code yX6_lookOfCell cX6_lookOfCell 5 (some .int), Cond.fieldLink RX6 11 "TouchUp$Wall" "cells" "[LTouchUp$Cell;", Cond.fieldLink RX6 19 "TouchUp$Wall" "coats" "[LTouchUp$Coat;", Cond.fieldLink RX6 80 "TouchUp$Cell" "coat" "I", Cond.fieldLink RX6 83 "TouchUp$Cell" "sunHad" "I", Cond.fieldLink RX6 86 "TouchUp$Cell" "air" "I", Cond.methodLink RX6 89 yX6_lookOfCoat, Cond.instanceMethod yX6_lookOfCoat, Cond.selects RX6 yX6_lookOfCoat yX6_lookOfCoat, Cond.code yX6_lookOfCoat cX6_lookOfCoat 8 (some .int), Cond.fieldLink RX6 51 "TouchUp$Wall" "smoke" "I", Cond.fieldLink RX6 23 "TouchUp$Wall" "weights" "[I", Cond.methodLink RX6 76 yX1_comesBack, Cond.instanceMethod yX1_comesBack, Cond.selects RX1 yX1_comesBack yX1_comesBack, Cond.initialized RX1, Cond.code yX1_comesBack cX1_comesBack 7 (some .int), Cond.fieldLink RX1 9 "TouchUp$Coat" "bands" "[I", Cond.methodLink RX1 23 Lib.Math.max.name, Cond.static Lib.Math.max.name, Cond.initialized "java/lang/Math", Cond.code Lib.Math.max.name Lib.Math.max.code 2 (some .int), Cond.fieldLink RX1 15 "TouchUp$Coat" "kind" "I", Cond.methodLink RX1 19 yX1_lossIn]
def wsX7_seen_r3 : List Cond := [Cond.instanceMethod yX1_lossIn, Cond.selects RX1 yX1_lossIn yX1_lossIn, Cond.code yX1_lossIn cX1_lossIn 6 (some .int), Cond.methodLink RX2 36 yX2_unpaint, Cond.instanceMethod yX2_unpaint, Cond.selects RX2 yX2_unpaint yX2_unpaint, Cond.code yX2_unpaint cX2_unpaint 2 none, Cond.fieldLink RX2 15 "TouchUp$Edges" "shows" "[I", Cond.methodLink RX7 188 yX2_countSeen, Cond.instanceMethod yX2_countSeen, Cond.selects RX2 yX2_countSeen yX2_countSeen, Cond.code yX2_countSeen cX2_countSeen 3 (some .int), Cond.methodLink RX2 47 yX2_isSeenToRight, Cond.instanceMethod yX2_isSeenToRight, Cond.selects RX2 yX2_isSeenToRight yX2_isSeenToRight, Cond.code yX2_isSeenToRight cX2_isSeenToRight 2 (some .boolean), Cond.fieldLink RX2 58 "TouchUp$Wall" "wide" "I", Cond.methodLink RX2 54 yX6_columnOf, Cond.instanceMethod yX6_columnOf, Cond.selects RX6 yX6_columnOf yX6_columnOf, Cond.code yX6_columnOf cX6_columnOf 2 (some .int), Cond.fieldLink RX6 38 "TouchUp$Wall" "wide" "I", Cond.methodLink RX2 61 yX2_isSeenBetween, Cond.instanceMethod yX2_isSeenBetween]
def wsX7_seen_r4 : List Cond := [Cond.selects RX2 yX2_isSeenBetween yX2_isSeenBetween, Cond.code yX2_isSeenBetween cX2_isSeenBetween 6 (some .boolean), Cond.methodLink RX2 65 Lib.Math.abs.name, Cond.static Lib.Math.abs.name, Cond.code Lib.Math.abs.name Lib.Math.abs.code 1 (some .int), Cond.fieldLink RX2 70 "TouchUp$Wall" "line" "I", Cond.methodLink RX2 51 yX2_isSeenBelow, Cond.instanceMethod yX2_isSeenBelow, Cond.selects RX2 yX2_isSeenBelow yX2_isSeenBelow, Cond.code yX2_isSeenBelow cX2_isSeenBelow 2 (some .boolean), Cond.methodLink RX7 192 yX2_countSeenOf, Cond.instanceMethod yX2_countSeenOf, Cond.selects RX2 yX2_countSeenOf yX2_countSeenOf, Cond.code yX2_countSeenOf cX2_countSeenOf 3 (some .int)]
def wsX7_seen : List Cond := .code yX7_seen cX7_seen 2 (some .int) :: ((wsX7_seen_r1 ++ (wsX7_seen_r2 ++ (wsX7_seen_r3 ++ wsX7_seen_r4))) ++ wsX70 ++ wsX60 ++ wsX20 ++ wsX00 ++ wsX10)
def wsX7_mix_r1 : List Cond := [Cond.fieldLink RX7 36 "TouchUp" "mixer" "LTouchUp$Mixer;", Cond.fieldLink RX7 20 "TouchUp" "wall" "LTouchUp$Wall;", Cond.fieldLink RX7 136 "TouchUp$Wall" "coatCount" "I", Cond.fieldLink RX7 150 "TouchUp$Coat" "kind" "I", Cond.fieldLink RX7 155 "TouchUp$Coat" "bands" "[I", Cond.methodLink RX7 195 yX3_pour, Cond.instanceMethod yX3_pour, Cond.selects RX3 yX3_pour yX3_pour, Cond.initialized RX3, Cond.code yX3_pour cX3_pour 5 none, Cond.fieldLink RX3 9 "TouchUp$Mixer" "drops" "[I", Cond.methodLink RX7 199 yX3_isMix, Cond.instanceMethod yX3_isMix, Cond.selects RX3 yX3_isMix yX3_isMix, Cond.code yX3_isMix cX3_isMix 3 (some .boolean), Cond.fieldLink RX3 28 "TouchUp$Mixer" "wall" "LTouchUp$Wall;", Cond.static yX7_isWithin, Cond.initialized RX7, Cond.code yX7_isWithin cX7_isWithin 3 (some .boolean), Cond.methodLink RX3 36 yX6_hasCoat, Cond.instanceMethod yX6_hasCoat, Cond.selects RX6 yX6_hasCoat yX6_hasCoat, Cond.initialized RX6, Cond.code yX6_hasCoat cX6_hasCoat 2 (some .boolean)]
def wsX7_mix_r2 : List Cond := [Cond.fieldLink RX6 60 "TouchUp$Wall" "coatCount" "I", Cond.methodLink RX7 202 yX3_stir, Cond.instanceMethod yX3_stir, Cond.selects RX3 yX3_stir yX3_stir, Cond.code yX3_stir cX3_stir 5 (some (.object "TouchUp$Coat")), Cond.methodLink RX3 46 Lib.Math.max.name, Cond.static Lib.Math.max.name, Cond.initialized "java/lang/Math", Cond.code Lib.Math.max.name Lib.Math.max.code 2 (some .int), Cond.fieldLink RX3 52 "TouchUp$Wall" "coats" "[LTouchUp$Coat;", Cond.fieldLink RX3 56 "TouchUp$Coat" "bands" "[I", Cond.fieldLink RX3 18 "TouchUp$Mixer" "mixed" "LTouchUp$Coat;", Cond.fieldLink RX3 62 "TouchUp$Coat" "kind" "I", Cond.methodLink RX3 42 yX3_sumOfDrops, Cond.instanceMethod yX3_sumOfDrops, Cond.selects RX3 yX3_sumOfDrops yX3_sumOfDrops, Cond.code yX3_sumOfDrops cX3_sumOfDrops 1 (some .int), Cond.methodLink RX3 59 yX3_leastInIt, Cond.instanceMethod yX3_leastInIt, Cond.selects RX3 yX3_leastInIt yX3_leastInIt, Cond.code yX3_leastInIt cX3_leastInIt 2 (some .int), Cond.methodLink RX7 139 yX6_addCoat, Cond.instanceMethod yX6_addCoat, Cond.selects RX6 yX6_addCoat yX6_addCoat]
def wsX7_mix_r3 : List Cond := [Cond.code yX6_addCoat cX6_addCoat 6 (some .int), Cond.fieldLink RX6 19 "TouchUp$Wall" "coats" "[LTouchUp$Coat;", Cond.fieldLink RX6 70 "TouchUp$Coat" "kind" "I", Cond.fieldLink RX6 73 "TouchUp$Coat" "bands" "[I"]
def wsX7_mix : List Cond := .code yX7_mix cX7_mix 6 (some .int) :: ((wsX7_mix_r1 ++ (wsX7_mix_r2 ++ wsX7_mix_r3)) ++ wsX70 ++ wsX60 ++ wsX10 ++ wsX30)
def wsX7_best_r1 : List Cond := [Cond.fieldLink RX7 20 "TouchUp" "wall" "LTouchUp$Wall;", Cond.fieldLink RX7 36 "TouchUp" "mixer" "LTouchUp$Mixer;", Cond.fieldLink RX7 209 "TouchUp$Mixer" "leastUnlike" "I", Cond.fieldLink RX7 212 "TouchUp$Mixer" "bestDrops" "[I", Cond.methodLink RX7 83 yX6_hasCell, Cond.instanceMethod yX6_hasCell, Cond.selects RX6 yX6_hasCell yX6_hasCell, Cond.initialized RX6, Cond.code yX6_hasCell cX6_hasCell 2 (some .boolean), Cond.fieldLink RX6 41 "TouchUp$Wall" "count" "I", Cond.methodLink RX7 108 yX7_isWithin, Cond.static yX7_isWithin, Cond.initialized RX7, Cond.code yX7_isWithin cX7_isWithin 3 (some .boolean), Cond.methodLink RX7 206 yX3_searchFor, Cond.instanceMethod yX3_searchFor, Cond.selects RX3 yX3_searchFor yX3_searchFor, Cond.initialized RX3, Cond.code yX3_searchFor cX3_searchFor 7 none, Cond.fieldLink RX3 28 "TouchUp$Mixer" "wall" "LTouchUp$Wall;", Cond.fieldLink RX3 22 "TouchUp$Mixer" "now" "[I", Cond.constant RX3 75 (2147483647), Cond.fieldLink RX3 76 "TouchUp$Mixer" "leastUnlike" "I", Cond.fieldLink RX3 79 "TouchUp$Mixer" "fewestDrops" "I"]
def wsX7_best_r2 : List Cond := [Cond.methodLink RX3 66 yX6_views, Cond.instanceMethod yX6_views, Cond.selects RX6 yX6_views yX6_views, Cond.code yX6_views cX6_views 1 (some .int), Cond.fieldLink RX6 57 "TouchUp$Wall" "lightCount" "I", Cond.methodLink RX3 69 yX6_lookOfCell, Cond.instanceMethod yX6_lookOfCell, Cond.selects RX6 yX6_lookOfCell yX6_lookOfCell, Cond.code yX6_lookOfCell cX6_lookOfCell 5 (some .int), Cond.fieldLink RX6 11 "TouchUp$Wall" "cells" "[LTouchUp$Cell;", Cond.fieldLink RX6 19 "TouchUp$Wall" "coats" "[LTouchUp$Coat;", Cond.fieldLink RX6 80 "TouchUp$Cell" "coat" "I", Cond.fieldLink RX6 83 "TouchUp$Cell" "sunHad" "I", Cond.fieldLink RX6 86 "TouchUp$Cell" "air" "I", Cond.methodLink RX6 89 yX6_lookOfCoat, Cond.instanceMethod yX6_lookOfCoat, Cond.selects RX6 yX6_lookOfCoat yX6_lookOfCoat, Cond.code yX6_lookOfCoat cX6_lookOfCoat 8 (some .int), Cond.fieldLink RX6 51 "TouchUp$Wall" "smoke" "I", Cond.fieldLink RX6 23 "TouchUp$Wall" "weights" "[I", Cond.methodLink RX6 76 yX1_comesBack, Cond.instanceMethod yX1_comesBack, Cond.selects RX1 yX1_comesBack yX1_comesBack, Cond.initialized RX1]
def wsX7_best_r3 : List Cond := [Cond.code yX1_comesBack cX1_comesBack 7 (some .int), Cond.fieldLink RX1 9 "TouchUp$Coat" "bands" "[I", Cond.methodLink RX1 23 Lib.Math.max.name, Cond.static Lib.Math.max.name, Cond.initialized "java/lang/Math", Cond.code Lib.Math.max.name Lib.Math.max.code 2 (some .int), Cond.fieldLink RX1 15 "TouchUp$Coat" "kind" "I", Cond.methodLink RX1 19 yX1_lossIn, Cond.instanceMethod yX1_lossIn, Cond.selects RX1 yX1_lossIn yX1_lossIn, Cond.code yX1_lossIn cX1_lossIn 6 (some .int), Cond.methodLink RX3 82 yX3_pour, Cond.instanceMethod yX3_pour, Cond.selects RX3 yX3_pour yX3_pour, Cond.code yX3_pour cX3_pour 5 none, Cond.fieldLink RX3 9 "TouchUp$Mixer" "drops" "[I", Cond.methodLink RX3 86 yX3_keepIfBetter, Cond.instanceMethod yX3_keepIfBetter, Cond.selects RX3 yX3_keepIfBetter yX3_keepIfBetter, Cond.code yX3_keepIfBetter cX3_keepIfBetter 3 none, Cond.fieldLink RX3 25 "TouchUp$Mixer" "bestDrops" "[I", Cond.methodLink RX3 100 arraycopyName, Cond.native arraycopyName, Cond.static arraycopyName]
def wsX7_best_r4 : List Cond := [Cond.initialized "java/lang/System", Cond.methodLink RX3 89 yX3_isMix, Cond.instanceMethod yX3_isMix, Cond.selects RX3 yX3_isMix yX3_isMix, Cond.code yX3_isMix cX3_isMix 3 (some .boolean), Cond.methodLink RX3 36 yX6_hasCoat, Cond.instanceMethod yX6_hasCoat, Cond.selects RX6 yX6_hasCoat yX6_hasCoat, Cond.code yX6_hasCoat cX6_hasCoat 2 (some .boolean), Cond.fieldLink RX6 60 "TouchUp$Wall" "coatCount" "I", Cond.methodLink RX3 93 yX3_stir, Cond.instanceMethod yX3_stir, Cond.selects RX3 yX3_stir yX3_stir, Cond.code yX3_stir cX3_stir 5 (some (.object "TouchUp$Coat")), Cond.methodLink RX3 46 Lib.Math.max.name, Cond.fieldLink RX3 52 "TouchUp$Wall" "coats" "[LTouchUp$Coat;", Cond.fieldLink RX3 56 "TouchUp$Coat" "bands" "[I", Cond.fieldLink RX3 18 "TouchUp$Mixer" "mixed" "LTouchUp$Coat;", Cond.fieldLink RX3 62 "TouchUp$Coat" "kind" "I", Cond.methodLink RX3 42 yX3_sumOfDrops, Cond.instanceMethod yX3_sumOfDrops, Cond.selects RX3 yX3_sumOfDrops yX3_sumOfDrops, Cond.code yX3_sumOfDrops cX3_sumOfDrops 1 (some .int), Cond.methodLink RX3 59 yX3_leastInIt]
def wsX7_best_r5 : List Cond := [Cond.instanceMethod yX3_leastInIt, Cond.selects RX3 yX3_leastInIt yX3_leastInIt, Cond.code yX3_leastInIt cX3_leastInIt 2 (some .int), Cond.methodLink RX3 97 yX3_farthestApart, Cond.instanceMethod yX3_farthestApart, Cond.selects RX3 yX3_farthestApart yX3_farthestApart, Cond.code yX3_farthestApart cX3_farthestApart 4 (some .int), Cond.methodLink RX3 110 Lib.Math.abs.name, Cond.static Lib.Math.abs.name, Cond.code Lib.Math.abs.name Lib.Math.abs.code 1 (some .int), Cond.methodLink RX3 106 yX6_lookOfCoat]
def wsX7_best : List Cond := .code yX7_best cX7_best 3 (some .int) :: ((wsX7_best_r1 ++ (wsX7_best_r2 ++ (wsX7_best_r3 ++ (wsX7_best_r4 ++ wsX7_best_r5)))) ++ wsX70 ++ wsX30 ++ wsX60 ++ wsX00 ++ wsX10)
def wsX7_traitors_r1 : List Cond := [Cond.fieldLink RX7 20 "TouchUp" "wall" "LTouchUp$Wall;", Cond.fieldLink RX7 136 "TouchUp$Wall" "coatCount" "I", Cond.methodLink RX7 173 yX6_hasLight, Cond.instanceMethod yX6_hasLight, Cond.selects RX6 yX6_hasLight yX6_hasLight, Cond.initialized RX6, Cond.code yX6_hasLight cX6_hasLight 2 (some .boolean), Cond.fieldLink RX6 57 "TouchUp$Wall" "lightCount" "I", Cond.methodLink RX7 215 yX6_areTraitors, Cond.instanceMethod yX6_areTraitors, Cond.selects RX6 yX6_areTraitors yX6_areTraitors, Cond.code yX6_areTraitors cX6_areTraitors 5 (some .boolean), Cond.fieldLink RX6 54 "TouchUp$Wall" "line" "I", Cond.methodLink RX6 93 yX6_apartFresh, Cond.instanceMethod yX6_apartFresh, Cond.selects RX6 yX6_apartFresh yX6_apartFresh, Cond.code yX6_apartFresh cX6_apartFresh 4 (some .int), Cond.fieldLink RX6 19 "TouchUp$Wall" "coats" "[LTouchUp$Coat;", Cond.methodLink RX6 97 Lib.Math.abs.name, Cond.static Lib.Math.abs.name, Cond.initialized "java/lang/Math", Cond.code Lib.Math.abs.name Lib.Math.abs.code 1 (some .int), Cond.methodLink RX6 89 yX6_lookOfCoat, Cond.instanceMethod yX6_lookOfCoat]
def wsX7_traitors_r2 : List Cond := [Cond.selects RX6 yX6_lookOfCoat yX6_lookOfCoat, Cond.code yX6_lookOfCoat cX6_lookOfCoat 8 (some .int), Cond.fieldLink RX6 51 "TouchUp$Wall" "smoke" "I", Cond.fieldLink RX6 23 "TouchUp$Wall" "weights" "[I", Cond.methodLink RX6 76 yX1_comesBack, Cond.instanceMethod yX1_comesBack, Cond.selects RX1 yX1_comesBack yX1_comesBack, Cond.initialized RX1, Cond.code yX1_comesBack cX1_comesBack 7 (some .int), Cond.fieldLink RX1 9 "TouchUp$Coat" "bands" "[I", Cond.methodLink RX1 23 Lib.Math.max.name, Cond.static Lib.Math.max.name, Cond.code Lib.Math.max.name Lib.Math.max.code 2 (some .int), Cond.fieldLink RX1 15 "TouchUp$Coat" "kind" "I", Cond.methodLink RX1 19 yX1_lossIn, Cond.instanceMethod yX1_lossIn, Cond.selects RX1 yX1_lossIn yX1_lossIn, Cond.code yX1_lossIn cX1_lossIn 6 (some .int)]
def wsX7_traitors : List Cond := .code yX7_traitors cX7_traitors 7 (some .int) :: ((wsX7_traitors_r1 ++ wsX7_traitors_r2) ++ wsX70 ++ wsX60 ++ wsX10)
def wsX7_patch_r1 : List Cond := [Cond.fieldLink RX7 20 "TouchUp" "wall" "LTouchUp$Wall;", Cond.fieldLink RX7 45 "TouchUp" "patch" "LTouchUp$Patch;", Cond.fieldLink RX7 222 "TouchUp$Patch" "size" "I", Cond.fieldLink RX7 225 "TouchUp$Patch" "first" "I", Cond.fieldLink RX7 228 "TouchUp$Patch" "last" "I", Cond.methodLink RX7 83 yX6_hasCell, Cond.instanceMethod yX6_hasCell, Cond.selects RX6 yX6_hasCell yX6_hasCell, Cond.initialized RX6, Cond.code yX6_hasCell cX6_hasCell 2 (some .boolean), Cond.fieldLink RX6 41 "TouchUp$Wall" "count" "I", Cond.methodLink RX7 143 yX6_hasCoat, Cond.instanceMethod yX6_hasCoat, Cond.selects RX6 yX6_hasCoat yX6_hasCoat, Cond.code yX6_hasCoat cX6_hasCoat 2 (some .boolean), Cond.fieldLink RX6 60 "TouchUp$Wall" "coatCount" "I", Cond.methodLink RX7 108 yX7_isWithin, Cond.static yX7_isWithin, Cond.initialized RX7, Cond.code yX7_isWithin cX7_isWithin 3 (some .boolean), Cond.methodLink RX7 218 yX4_searchAround, Cond.instanceMethod yX4_searchAround, Cond.selects RX4 yX4_searchAround yX4_searchAround, Cond.initialized RX4]
def wsX7_patch_r2 : List Cond := [Cond.code yX4_searchAround cX4_searchAround 9 none, Cond.fieldLink RX4 17 "TouchUp$Patch" "size" "I", Cond.fieldLink RX4 13 "TouchUp$Patch" "edges" "LTouchUp$Edges;", Cond.fieldLink RX4 7 "TouchUp$Patch" "wall" "LTouchUp$Wall;", Cond.fieldLink RX4 39 "TouchUp$Wall" "high" "I", Cond.fieldLink RX4 42 "TouchUp$Wall" "wide" "I", Cond.methodLink RX4 21 yX2_takeAsItIs, Cond.instanceMethod yX2_takeAsItIs, Cond.selects RX2 yX2_takeAsItIs yX2_takeAsItIs, Cond.initialized RX2, Cond.code yX2_takeAsItIs cX2_takeAsItIs 3 none, Cond.fieldLink RX2 18 "TouchUp$Edges" "wall" "LTouchUp$Wall;", Cond.fieldLink RX2 22 "TouchUp$Wall" "count" "I", Cond.fieldLink RX2 9 "TouchUp$Edges" "looks" "[I", Cond.methodLink RX2 28 yX6_views, Cond.instanceMethod yX6_views, Cond.selects RX6 yX6_views yX6_views, Cond.code yX6_views cX6_views 1 (some .int), Cond.fieldLink RX6 57 "TouchUp$Wall" "lightCount" "I", Cond.methodLink RX2 32 yX6_lookOfCell, Cond.instanceMethod yX6_lookOfCell, Cond.selects RX6 yX6_lookOfCell yX6_lookOfCell, Cond.code yX6_lookOfCell cX6_lookOfCell 5 (some .int), Cond.fieldLink RX6 11 "TouchUp$Wall" "cells" "[LTouchUp$Cell;"]
def wsX7_patch_r3 : List Cond := [Cond.fieldLink RX6 19 "TouchUp$Wall" "coats" "[LTouchUp$Coat;", Cond.fieldLink RX6 80 "TouchUp$Cell" "coat" "I", Cond.fieldLink RX6 83 "TouchUp$Cell" "sunHad" "I", Cond.fieldLink RX6 86 "TouchUp$Cell" "air" "I", Cond.methodLink RX6 89 yX6_lookOfCoat, Cond.instanceMethod yX6_lookOfCoat, Cond.selects RX6 yX6_lookOfCoat yX6_lookOfCoat, Cond.code yX6_lookOfCoat cX6_lookOfCoat 8 (some .int), Cond.fieldLink RX6 51 "TouchUp$Wall" "smoke" "I", Cond.fieldLink RX6 23 "TouchUp$Wall" "weights" "[I", Cond.methodLink RX6 76 yX1_comesBack, Cond.instanceMethod yX1_comesBack, Cond.selects RX1 yX1_comesBack yX1_comesBack, Cond.initialized RX1, Cond.code yX1_comesBack cX1_comesBack 7 (some .int), Cond.fieldLink RX1 9 "TouchUp$Coat" "bands" "[I", Cond.methodLink RX1 23 Lib.Math.max.name, Cond.static Lib.Math.max.name, Cond.initialized "java/lang/Math", Cond.code Lib.Math.max.name Lib.Math.max.code 2 (some .int), Cond.fieldLink RX1 15 "TouchUp$Coat" "kind" "I", Cond.methodLink RX1 19 yX1_lossIn, Cond.instanceMethod yX1_lossIn, Cond.selects RX1 yX1_lossIn yX1_lossIn]
def wsX7_patch_r4 : List Cond := [Cond.code yX1_lossIn cX1_lossIn 6 (some .int), Cond.methodLink RX2 36 yX2_unpaint, Cond.instanceMethod yX2_unpaint, Cond.selects RX2 yX2_unpaint yX2_unpaint, Cond.code yX2_unpaint cX2_unpaint 2 none, Cond.fieldLink RX2 15 "TouchUp$Edges" "shows" "[I", Cond.methodLink RX4 26 yX2_takeFresh, Cond.instanceMethod yX2_takeFresh, Cond.selects RX2 yX2_takeFresh yX2_takeFresh, Cond.code yX2_takeFresh cX2_takeFresh 3 none, Cond.fieldLink RX2 39 "TouchUp$Wall" "coats" "[LTouchUp$Coat;", Cond.methodLink RX2 43 yX6_lookOfCoat, Cond.methodLink RX4 30 yX6_rowOf, Cond.instanceMethod yX6_rowOf, Cond.selects RX6 yX6_rowOf yX6_rowOf, Cond.code yX6_rowOf cX6_rowOf 2 (some .int), Cond.fieldLink RX6 38 "TouchUp$Wall" "wide" "I", Cond.methodLink RX4 36 yX6_columnOf, Cond.instanceMethod yX6_columnOf, Cond.selects RX6 yX6_columnOf yX6_columnOf, Cond.code yX6_columnOf cX6_columnOf 2 (some .int), Cond.methodLink RX4 45 yX4_keepIfBetter, Cond.instanceMethod yX4_keepIfBetter, Cond.selects RX4 yX4_keepIfBetter yX4_keepIfBetter]
def wsX7_patch_r5 : List Cond := [Cond.code yX4_keepIfBetter cX4_keepIfBetter 8 none, Cond.fieldLink RX4 59 "TouchUp$Patch" "first" "I", Cond.fieldLink RX4 62 "TouchUp$Patch" "last" "I", Cond.methodLink RX4 49 yX2_unpaint, Cond.methodLink RX4 52 yX2_paintOne, Cond.instanceMethod yX2_paintOne, Cond.selects RX2 yX2_paintOne yX2_paintOne, Cond.code yX2_paintOne cX2_paintOne 2 none, Cond.methodLink RX4 55 yX2_isAnySeen, Cond.instanceMethod yX2_isAnySeen, Cond.selects RX2 yX2_isAnySeen yX2_isAnySeen, Cond.code yX2_isAnySeen cX2_isAnySeen 2 (some .boolean), Cond.methodLink RX2 47 yX2_isSeenToRight, Cond.instanceMethod yX2_isSeenToRight, Cond.selects RX2 yX2_isSeenToRight yX2_isSeenToRight, Cond.code yX2_isSeenToRight cX2_isSeenToRight 2 (some .boolean), Cond.fieldLink RX2 58 "TouchUp$Wall" "wide" "I", Cond.methodLink RX2 54 yX6_columnOf, Cond.methodLink RX2 61 yX2_isSeenBetween, Cond.instanceMethod yX2_isSeenBetween, Cond.selects RX2 yX2_isSeenBetween yX2_isSeenBetween, Cond.code yX2_isSeenBetween cX2_isSeenBetween 6 (some .boolean), Cond.methodLink RX2 65 Lib.Math.abs.name, Cond.static Lib.Math.abs.name]
def wsX7_patch_r6 : List Cond := [Cond.code Lib.Math.abs.name Lib.Math.abs.code 1 (some .int), Cond.fieldLink RX2 70 "TouchUp$Wall" "line" "I", Cond.methodLink RX2 51 yX2_isSeenBelow, Cond.instanceMethod yX2_isSeenBelow, Cond.selects RX2 yX2_isSeenBelow yX2_isSeenBelow, Cond.code yX2_isSeenBelow cX2_isSeenBelow 2 (some .boolean)]
def wsX7_patch : List Cond := .code yX7_patch cX7_patch 4 (some .int) :: ((wsX7_patch_r1 ++ (wsX7_patch_r2 ++ (wsX7_patch_r3 ++ (wsX7_patch_r4 ++ (wsX7_patch_r5 ++ wsX7_patch_r6))))) ++ wsX70 ++ wsX40 ++ wsX60 ++ wsX20 ++ wsX00 ++ wsX10)
def wsX7_leave_r1 : List Cond := [Cond.fieldLink RX7 20 "TouchUp" "wall" "LTouchUp$Wall;", Cond.fieldLink RX7 29 "TouchUp" "edges" "LTouchUp$Edges;", Cond.methodLink RX7 83 yX6_hasCell, Cond.instanceMethod yX6_hasCell, Cond.selects RX6 yX6_hasCell yX6_hasCell, Cond.initialized RX6, Cond.code yX6_hasCell cX6_hasCell 2 (some .boolean), Cond.fieldLink RX6 41 "TouchUp$Wall" "count" "I", Cond.methodLink RX7 143 yX6_hasCoat, Cond.instanceMethod yX6_hasCoat, Cond.selects RX6 yX6_hasCoat yX6_hasCoat, Cond.code yX6_hasCoat cX6_hasCoat 2 (some .boolean), Cond.fieldLink RX6 60 "TouchUp$Wall" "coatCount" "I", Cond.methodLink RX7 185 yX2_takeAsItIs, Cond.instanceMethod yX2_takeAsItIs, Cond.selects RX2 yX2_takeAsItIs yX2_takeAsItIs, Cond.initialized RX2, Cond.code yX2_takeAsItIs cX2_takeAsItIs 3 none, Cond.fieldLink RX2 18 "TouchUp$Edges" "wall" "LTouchUp$Wall;", Cond.fieldLink RX2 22 "TouchUp$Wall" "count" "I", Cond.fieldLink RX2 9 "TouchUp$Edges" "looks" "[I", Cond.methodLink RX2 28 yX6_views, Cond.instanceMethod yX6_views, Cond.selects RX6 yX6_views yX6_views]
def wsX7_leave_r2 : List Cond := [Cond.code yX6_views cX6_views 1 (some .int), Cond.fieldLink RX6 57 "TouchUp$Wall" "lightCount" "I", Cond.methodLink RX2 32 yX6_lookOfCell, Cond.instanceMethod yX6_lookOfCell, Cond.selects RX6 yX6_lookOfCell yX6_lookOfCell, Cond.code yX6_lookOfCell cX6_lookOfCell 5 (some .int), Cond.fieldLink RX6 11 "TouchUp$Wall" "cells" "[LTouchUp$Cell;", Cond.fieldLink RX6 19 "TouchUp$Wall" "coats" "[LTouchUp$Coat;", Cond.fieldLink RX6 80 "TouchUp$Cell" "coat" "I", Cond.fieldLink RX6 83 "TouchUp$Cell" "sunHad" "I", Cond.fieldLink RX6 86 "TouchUp$Cell" "air" "I", Cond.methodLink RX6 89 yX6_lookOfCoat, Cond.instanceMethod yX6_lookOfCoat, Cond.selects RX6 yX6_lookOfCoat yX6_lookOfCoat, Cond.code yX6_lookOfCoat cX6_lookOfCoat 8 (some .int), Cond.fieldLink RX6 51 "TouchUp$Wall" "smoke" "I", Cond.fieldLink RX6 23 "TouchUp$Wall" "weights" "[I", Cond.methodLink RX6 76 yX1_comesBack, Cond.instanceMethod yX1_comesBack, Cond.selects RX1 yX1_comesBack yX1_comesBack, Cond.initialized RX1, Cond.code yX1_comesBack cX1_comesBack 7 (some .int), Cond.fieldLink RX1 9 "TouchUp$Coat" "bands" "[I", Cond.methodLink RX1 23 Lib.Math.max.name]
def wsX7_leave_r3 : List Cond := [Cond.static Lib.Math.max.name, Cond.initialized "java/lang/Math", Cond.code Lib.Math.max.name Lib.Math.max.code 2 (some .int), Cond.fieldLink RX1 15 "TouchUp$Coat" "kind" "I", Cond.methodLink RX1 19 yX1_lossIn, Cond.instanceMethod yX1_lossIn, Cond.selects RX1 yX1_lossIn yX1_lossIn, Cond.code yX1_lossIn cX1_lossIn 6 (some .int), Cond.methodLink RX2 36 yX2_unpaint, Cond.instanceMethod yX2_unpaint, Cond.selects RX2 yX2_unpaint yX2_unpaint, Cond.code yX2_unpaint cX2_unpaint 2 none, Cond.fieldLink RX2 15 "TouchUp$Edges" "shows" "[I", Cond.methodLink RX7 188 yX2_countSeen, Cond.instanceMethod yX2_countSeen, Cond.selects RX2 yX2_countSeen yX2_countSeen, Cond.code yX2_countSeen cX2_countSeen 3 (some .int), Cond.methodLink RX2 47 yX2_isSeenToRight, Cond.instanceMethod yX2_isSeenToRight, Cond.selects RX2 yX2_isSeenToRight yX2_isSeenToRight, Cond.code yX2_isSeenToRight cX2_isSeenToRight 2 (some .boolean), Cond.fieldLink RX2 58 "TouchUp$Wall" "wide" "I", Cond.methodLink RX2 54 yX6_columnOf, Cond.instanceMethod yX6_columnOf]
def wsX7_leave_r4 : List Cond := [Cond.selects RX6 yX6_columnOf yX6_columnOf, Cond.code yX6_columnOf cX6_columnOf 2 (some .int), Cond.fieldLink RX6 38 "TouchUp$Wall" "wide" "I", Cond.methodLink RX2 61 yX2_isSeenBetween, Cond.instanceMethod yX2_isSeenBetween, Cond.selects RX2 yX2_isSeenBetween yX2_isSeenBetween, Cond.code yX2_isSeenBetween cX2_isSeenBetween 6 (some .boolean), Cond.methodLink RX2 65 Lib.Math.abs.name, Cond.static Lib.Math.abs.name, Cond.code Lib.Math.abs.name Lib.Math.abs.code 1 (some .int), Cond.fieldLink RX2 70 "TouchUp$Wall" "line" "I", Cond.methodLink RX2 51 yX2_isSeenBelow, Cond.instanceMethod yX2_isSeenBelow, Cond.selects RX2 yX2_isSeenBelow yX2_isSeenBelow, Cond.code yX2_isSeenBelow cX2_isSeenBelow 2 (some .boolean), Cond.methodLink RX7 231 yX2_takeFresh, Cond.instanceMethod yX2_takeFresh, Cond.selects RX2 yX2_takeFresh yX2_takeFresh, Cond.code yX2_takeFresh cX2_takeFresh 3 none, Cond.fieldLink RX2 39 "TouchUp$Wall" "coats" "[LTouchUp$Coat;", Cond.methodLink RX2 43 yX6_lookOfCoat, Cond.methodLink RX7 232 yX2_paintOne, Cond.instanceMethod yX2_paintOne, Cond.selects RX2 yX2_paintOne yX2_paintOne]
def wsX7_leave_r5 : List Cond := [Cond.code yX2_paintOne cX2_paintOne 2 none]
def wsX7_leave : List Cond := .code yX7_leave cX7_leave 4 (some .int) :: ((wsX7_leave_r1 ++ (wsX7_leave_r2 ++ (wsX7_leave_r3 ++ (wsX7_leave_r4 ++ wsX7_leave_r5)))) ++ wsX70 ++ wsX60 ++ wsX20 ++ wsX00 ++ wsX10)
def wsX7_on_r1 : List Cond := [Cond.fieldLink RX7 20 "TouchUp" "wall" "LTouchUp$Wall;", Cond.fieldLink RX7 86 "TouchUp$Wall" "cells" "[LTouchUp$Cell;", Cond.fieldLink RX7 104 "TouchUp$Cell" "hidden" "Z", Cond.fieldLink RX7 146 "TouchUp$Wall" "coats" "[LTouchUp$Coat;", Cond.fieldLink RX7 95 "TouchUp$Cell" "coat" "I", Cond.fieldLink RX7 98 "TouchUp$Cell" "sunHad" "I", Cond.fieldLink RX7 90 "TouchUp$Cell" "sun" "I", Cond.fieldLink RX7 101 "TouchUp$Cell" "air" "I", Cond.methodLink RX7 83 yX6_hasCell, Cond.instanceMethod yX6_hasCell, Cond.selects RX6 yX6_hasCell yX6_hasCell, Cond.initialized RX6, Cond.code yX6_hasCell cX6_hasCell 2 (some .boolean), Cond.fieldLink RX6 41 "TouchUp$Wall" "count" "I", Cond.methodLink RX7 173 yX6_hasLight, Cond.instanceMethod yX6_hasLight, Cond.selects RX6 yX6_hasLight yX6_hasLight, Cond.code yX6_hasLight cX6_hasLight 2 (some .boolean), Cond.fieldLink RX6 57 "TouchUp$Wall" "lightCount" "I", Cond.methodLink RX7 108 yX7_isWithin, Cond.static yX7_isWithin, Cond.initialized RX7, Cond.code yX7_isWithin cX7_isWithin 3 (some .boolean), Cond.methodLink RX7 235 yX6_lookOfCoat]
def wsX7_on_r2 : List Cond := [Cond.instanceMethod yX6_lookOfCoat, Cond.selects RX6 yX6_lookOfCoat yX6_lookOfCoat, Cond.code yX6_lookOfCoat cX6_lookOfCoat 8 (some .int), Cond.fieldLink RX6 51 "TouchUp$Wall" "smoke" "I", Cond.fieldLink RX6 23 "TouchUp$Wall" "weights" "[I", Cond.methodLink RX6 76 yX1_comesBack, Cond.instanceMethod yX1_comesBack, Cond.selects RX1 yX1_comesBack yX1_comesBack, Cond.initialized RX1, Cond.code yX1_comesBack cX1_comesBack 7 (some .int), Cond.fieldLink RX1 9 "TouchUp$Coat" "bands" "[I", Cond.methodLink RX1 23 Lib.Math.max.name, Cond.static Lib.Math.max.name, Cond.initialized "java/lang/Math", Cond.code Lib.Math.max.name Lib.Math.max.code 2 (some .int), Cond.fieldLink RX1 15 "TouchUp$Coat" "kind" "I", Cond.methodLink RX1 19 yX1_lossIn, Cond.instanceMethod yX1_lossIn, Cond.selects RX1 yX1_lossIn yX1_lossIn, Cond.code yX1_lossIn cX1_lossIn 6 (some .int)]
def wsX7_on : List Cond := .code yX7_on cX7_on 6 (some .int) :: ((wsX7_on_r1 ++ wsX7_on_r2) ++ wsX70 ++ wsX60 ++ wsX00 ++ wsX10)
def wsX7_hide_r1 : List Cond := [Cond.fieldLink RX7 20 "TouchUp" "wall" "LTouchUp$Wall;", Cond.fieldLink RX7 29 "TouchUp" "edges" "LTouchUp$Edges;", Cond.fieldLink RX7 80 "TouchUp$Wall" "count" "I", Cond.methodLink RX7 108 yX7_isWithin, Cond.static yX7_isWithin, Cond.initialized RX7, Cond.code yX7_isWithin cX7_isWithin 3 (some .boolean), Cond.methodLink RX7 112 yX6_stands, Cond.instanceMethod yX6_stands, Cond.selects RX6 yX6_stands yX6_stands, Cond.initialized RX6, Cond.code yX6_stands cX6_stands 1 (some .boolean), Cond.fieldLink RX6 41 "TouchUp$Wall" "count" "I", Cond.methodLink RX7 185 yX2_takeAsItIs, Cond.instanceMethod yX2_takeAsItIs, Cond.selects RX2 yX2_takeAsItIs yX2_takeAsItIs, Cond.initialized RX2, Cond.code yX2_takeAsItIs cX2_takeAsItIs 3 none, Cond.fieldLink RX2 18 "TouchUp$Edges" "wall" "LTouchUp$Wall;", Cond.fieldLink RX2 22 "TouchUp$Wall" "count" "I", Cond.fieldLink RX2 9 "TouchUp$Edges" "looks" "[I", Cond.methodLink RX2 28 yX6_views, Cond.instanceMethod yX6_views, Cond.selects RX6 yX6_views yX6_views]
def wsX7_hide_r2 : List Cond := [Cond.code yX6_views cX6_views 1 (some .int), Cond.fieldLink RX6 57 "TouchUp$Wall" "lightCount" "I", Cond.methodLink RX2 32 yX6_lookOfCell, Cond.instanceMethod yX6_lookOfCell, Cond.selects RX6 yX6_lookOfCell yX6_lookOfCell, Cond.code yX6_lookOfCell cX6_lookOfCell 5 (some .int), Cond.fieldLink RX6 11 "TouchUp$Wall" "cells" "[LTouchUp$Cell;", Cond.fieldLink RX6 19 "TouchUp$Wall" "coats" "[LTouchUp$Coat;", Cond.fieldLink RX6 80 "TouchUp$Cell" "coat" "I", Cond.fieldLink RX6 83 "TouchUp$Cell" "sunHad" "I", Cond.fieldLink RX6 86 "TouchUp$Cell" "air" "I", Cond.methodLink RX6 89 yX6_lookOfCoat, Cond.instanceMethod yX6_lookOfCoat, Cond.selects RX6 yX6_lookOfCoat yX6_lookOfCoat, Cond.code yX6_lookOfCoat cX6_lookOfCoat 8 (some .int), Cond.fieldLink RX6 51 "TouchUp$Wall" "smoke" "I", Cond.fieldLink RX6 23 "TouchUp$Wall" "weights" "[I", Cond.methodLink RX6 76 yX1_comesBack, Cond.instanceMethod yX1_comesBack, Cond.selects RX1 yX1_comesBack yX1_comesBack, Cond.initialized RX1, Cond.code yX1_comesBack cX1_comesBack 7 (some .int), Cond.fieldLink RX1 9 "TouchUp$Coat" "bands" "[I", Cond.methodLink RX1 23 Lib.Math.max.name]
def wsX7_hide_r3 : List Cond := [Cond.static Lib.Math.max.name, Cond.initialized "java/lang/Math", Cond.code Lib.Math.max.name Lib.Math.max.code 2 (some .int), Cond.fieldLink RX1 15 "TouchUp$Coat" "kind" "I", Cond.methodLink RX1 19 yX1_lossIn, Cond.instanceMethod yX1_lossIn, Cond.selects RX1 yX1_lossIn yX1_lossIn, Cond.code yX1_lossIn cX1_lossIn 6 (some .int), Cond.methodLink RX2 36 yX2_unpaint, Cond.instanceMethod yX2_unpaint, Cond.selects RX2 yX2_unpaint yX2_unpaint, Cond.code yX2_unpaint cX2_unpaint 2 none, Cond.fieldLink RX2 15 "TouchUp$Edges" "shows" "[I", Cond.methodLink RX7 192 yX2_countSeenOf, Cond.instanceMethod yX2_countSeenOf, Cond.selects RX2 yX2_countSeenOf yX2_countSeenOf, Cond.code yX2_countSeenOf cX2_countSeenOf 3 (some .int), Cond.fieldLink RX2 58 "TouchUp$Wall" "wide" "I", Cond.methodLink RX2 47 yX2_isSeenToRight, Cond.instanceMethod yX2_isSeenToRight, Cond.selects RX2 yX2_isSeenToRight yX2_isSeenToRight, Cond.code yX2_isSeenToRight cX2_isSeenToRight 2 (some .boolean), Cond.methodLink RX2 54 yX6_columnOf, Cond.instanceMethod yX6_columnOf]
def wsX7_hide_r4 : List Cond := [Cond.selects RX6 yX6_columnOf yX6_columnOf, Cond.code yX6_columnOf cX6_columnOf 2 (some .int), Cond.fieldLink RX6 38 "TouchUp$Wall" "wide" "I", Cond.methodLink RX2 61 yX2_isSeenBetween, Cond.instanceMethod yX2_isSeenBetween, Cond.selects RX2 yX2_isSeenBetween yX2_isSeenBetween, Cond.code yX2_isSeenBetween cX2_isSeenBetween 6 (some .boolean), Cond.methodLink RX2 65 Lib.Math.abs.name, Cond.static Lib.Math.abs.name, Cond.code Lib.Math.abs.name Lib.Math.abs.code 1 (some .int), Cond.fieldLink RX2 70 "TouchUp$Wall" "line" "I", Cond.methodLink RX2 51 yX2_isSeenBelow, Cond.instanceMethod yX2_isSeenBelow, Cond.selects RX2 yX2_isSeenBelow yX2_isSeenBelow, Cond.code yX2_isSeenBelow cX2_isSeenBelow 2 (some .boolean)]
def wsX7_hide : List Cond := .code yX7_hide cX7_hide 6 (some .int) :: ((wsX7_hide_r1 ++ (wsX7_hide_r2 ++ (wsX7_hide_r3 ++ wsX7_hide_r4))) ++ wsX70 ++ wsX60 ++ wsX20 ++ wsX00 ++ wsX10)
def wsX7_isAsTold : List Cond := .code yX7_isAsTold cX7_isAsTold 8 (some .boolean) :: ([.fieldLink RX7 13 "TouchUp" "sheets" "[LTouchUp$Sheet;", .fieldLink RX7 254 "TouchUp$Sheet" "row" "[I", .fieldLink RX7 20 "TouchUp" "wall" "LTouchUp$Wall;", .fieldLink RX7 146 "TouchUp$Wall" "coats" "[LTouchUp$Coat;", .fieldLink RX7 116 "TouchUp$Wall" "smoke" "I", .methodLink RX7 162 yX1_comesBack, .instanceMethod yX1_comesBack, .selects RX1 yX1_comesBack yX1_comesBack, .initialized RX1, .code yX1_comesBack cX1_comesBack 7 (some .int), .fieldLink RX1 9 "TouchUp$Coat" "bands" "[I", .methodLink RX1 23 Lib.Math.max.name, .static Lib.Math.max.name, .initialized "java/lang/Math", .code Lib.Math.max.name Lib.Math.max.code 2 (some .int), .fieldLink RX1 15 "TouchUp$Coat" "kind" "I", .methodLink RX1 19 yX1_lossIn, .instanceMethod yX1_lossIn, .selects RX1 yX1_lossIn yX1_lossIn, .code yX1_lossIn cX1_lossIn 6 (some .int)] ++ wsX70 ++ wsX50 ++ wsX60 ++ wsX10)
def wsX7_hung_r1 : List Cond := [Cond.fieldLink RX7 50 "TouchUp" "latestFault" "I", Cond.fieldLink RX7 20 "TouchUp" "wall" "LTouchUp$Wall;", Cond.fieldLink RX7 13 "TouchUp" "sheets" "[LTouchUp$Sheet;", Cond.fieldLink RX7 122 "TouchUp$Wall" "year" "I", Cond.methodLink RX7 143 yX6_hasCoat, Cond.instanceMethod yX6_hasCoat, Cond.selects RX6 yX6_hasCoat yX6_hasCoat, Cond.initialized RX6, Cond.code yX6_hasCoat cX6_hasCoat 2 (some .boolean), Cond.fieldLink RX6 60 "TouchUp$Wall" "coatCount" "I", Cond.methodLink RX7 54 yX7_isSheet, Cond.static yX7_isSheet, Cond.initialized RX7, Cond.code yX7_isSheet cX7_isSheet 1 (some .boolean), Cond.methodLink RX7 108 yX7_isWithin, Cond.static yX7_isWithin, Cond.code yX7_isWithin cX7_isWithin 3 (some .boolean), Cond.methodLink RX7 58 yX7_isSort, Cond.static yX7_isSort, Cond.code yX7_isSort cX7_isSort 1 (some .boolean), Cond.methodLink RX7 239 yX5_faultOfCells, Cond.instanceMethod yX5_faultOfCells, Cond.selects RX5 yX5_faultOfCells yX5_faultOfCells, Cond.initialized RX5]
def wsX7_hung_r2 : List Cond := [Cond.code yX5_faultOfCells cX5_faultOfCells 5 (some .int), Cond.methodLink RX5 32 yX5_faultAs, Cond.instanceMethod yX5_faultAs, Cond.selects RX5 yX5_faultAs yX5_faultAs, Cond.code yX5_faultAs cX5_faultAs 2 (some .int), Cond.fieldLink RX5 15 "TouchUp$Sheet" "has" "Z", Cond.fieldLink RX5 19 "TouchUp$Sheet" "sort" "I", Cond.methodLink RX5 36 yX5_reaches, Cond.instanceMethod yX5_reaches, Cond.selects RX5 yX5_reaches yX5_reaches, Cond.code yX5_reaches cX5_reaches 3 (some .boolean), Cond.fieldLink RX5 23 "TouchUp$Sheet" "length" "I", Cond.methodLink RX7 69 yX7_failed, Cond.instanceMethod yX7_failed, Cond.selects RX7 yX7_failed yX7_failed, Cond.code yX7_failed cX7_failed 2 (some .int), Cond.methodLink RX7 242 yX7_isAsTold, Cond.instanceMethod yX7_isAsTold, Cond.selects RX7 yX7_isAsTold yX7_isAsTold, Cond.code yX7_isAsTold cX7_isAsTold 8 (some .boolean), Cond.fieldLink RX7 254 "TouchUp$Sheet" "row" "[I", Cond.fieldLink RX7 146 "TouchUp$Wall" "coats" "[LTouchUp$Coat;", Cond.fieldLink RX7 116 "TouchUp$Wall" "smoke" "I", Cond.methodLink RX7 162 yX1_comesBack]
def wsX7_hung_r3 : List Cond := [Cond.instanceMethod yX1_comesBack, Cond.selects RX1 yX1_comesBack yX1_comesBack, Cond.initialized RX1, Cond.code yX1_comesBack cX1_comesBack 7 (some .int), Cond.fieldLink RX1 9 "TouchUp$Coat" "bands" "[I", Cond.methodLink RX1 23 Lib.Math.max.name, Cond.static Lib.Math.max.name, Cond.initialized "java/lang/Math", Cond.code Lib.Math.max.name Lib.Math.max.code 2 (some .int), Cond.fieldLink RX1 15 "TouchUp$Coat" "kind" "I", Cond.methodLink RX1 19 yX1_lossIn, Cond.instanceMethod yX1_lossIn, Cond.selects RX1 yX1_lossIn yX1_lossIn, Cond.code yX1_lossIn cX1_lossIn 6 (some .int)]
def wsX7_hung : List Cond := .code yX7_hung cX7_hung 12 (some .int) :: ((wsX7_hung_r1 ++ (wsX7_hung_r2 ++ wsX7_hung_r3)) ++ wsX70 ++ wsX60 ++ wsX50 ++ wsX10)
def wsX7_old_r1 : List Cond := [Cond.fieldLink RX7 50 "TouchUp" "latestFault" "I", Cond.fieldLink RX7 20 "TouchUp" "wall" "LTouchUp$Wall;", Cond.constantLong RX7 246 (-9223372036854775808), Cond.fieldLink RX7 13 "TouchUp" "sheets" "[LTouchUp$Sheet;", Cond.methodLink RX7 143 yX6_hasCoat, Cond.instanceMethod yX6_hasCoat, Cond.selects RX6 yX6_hasCoat yX6_hasCoat, Cond.initialized RX6, Cond.code yX6_hasCoat cX6_hasCoat 2 (some .boolean), Cond.fieldLink RX6 60 "TouchUp$Wall" "coatCount" "I", Cond.methodLink RX7 54 yX7_isSheet, Cond.static yX7_isSheet, Cond.initialized RX7, Cond.code yX7_isSheet cX7_isSheet 1 (some .boolean), Cond.methodLink RX7 108 yX7_isWithin, Cond.static yX7_isWithin, Cond.code yX7_isWithin cX7_isWithin 3 (some .boolean), Cond.methodLink RX7 58 yX7_isSort, Cond.static yX7_isSort, Cond.code yX7_isSort cX7_isSort 1 (some .boolean), Cond.methodLink RX7 239 yX5_faultOfCells, Cond.instanceMethod yX5_faultOfCells, Cond.selects RX5 yX5_faultOfCells yX5_faultOfCells, Cond.initialized RX5]
def wsX7_old_r2 : List Cond := [Cond.code yX5_faultOfCells cX5_faultOfCells 5 (some .int), Cond.methodLink RX5 32 yX5_faultAs, Cond.instanceMethod yX5_faultAs, Cond.selects RX5 yX5_faultAs yX5_faultAs, Cond.code yX5_faultAs cX5_faultAs 2 (some .int), Cond.fieldLink RX5 15 "TouchUp$Sheet" "has" "Z", Cond.fieldLink RX5 19 "TouchUp$Sheet" "sort" "I", Cond.methodLink RX5 36 yX5_reaches, Cond.instanceMethod yX5_reaches, Cond.selects RX5 yX5_reaches yX5_reaches, Cond.code yX5_reaches cX5_reaches 3 (some .boolean), Cond.fieldLink RX5 23 "TouchUp$Sheet" "length" "I", Cond.methodLink RX7 69 yX7_failed, Cond.instanceMethod yX7_failed, Cond.selects RX7 yX7_failed yX7_failed, Cond.code yX7_failed cX7_failed 2 (some .int), Cond.methodLink RX7 242 yX7_isAsTold, Cond.instanceMethod yX7_isAsTold, Cond.selects RX7 yX7_isAsTold yX7_isAsTold, Cond.code yX7_isAsTold cX7_isAsTold 8 (some .boolean), Cond.fieldLink RX7 254 "TouchUp$Sheet" "row" "[I", Cond.fieldLink RX7 146 "TouchUp$Wall" "coats" "[LTouchUp$Coat;", Cond.fieldLink RX7 116 "TouchUp$Wall" "smoke" "I", Cond.methodLink RX7 162 yX1_comesBack]
def wsX7_old_r3 : List Cond := [Cond.instanceMethod yX1_comesBack, Cond.selects RX1 yX1_comesBack yX1_comesBack, Cond.initialized RX1, Cond.code yX1_comesBack cX1_comesBack 7 (some .int), Cond.fieldLink RX1 9 "TouchUp$Coat" "bands" "[I", Cond.methodLink RX1 23 Lib.Math.max.name, Cond.static Lib.Math.max.name, Cond.initialized "java/lang/Math", Cond.code Lib.Math.max.name Lib.Math.max.code 2 (some .int), Cond.fieldLink RX1 15 "TouchUp$Coat" "kind" "I", Cond.methodLink RX1 19 yX1_lossIn, Cond.instanceMethod yX1_lossIn, Cond.selects RX1 yX1_lossIn yX1_lossIn, Cond.code yX1_lossIn cX1_lossIn 6 (some .int)]
def wsX7_old : List Cond := .code yX7_old cX7_old 10 (some .long) :: ((wsX7_old_r1 ++ (wsX7_old_r2 ++ wsX7_old_r3)) ++ wsX70 ++ wsX60 ++ wsX50 ++ wsX10)
def wsX7_sheet_r1 : List Cond := [Cond.fieldLink RX7 50 "TouchUp" "latestFault" "I", Cond.fieldLink RX7 13 "TouchUp" "sheets" "[LTouchUp$Sheet;", Cond.methodLink RX7 54 yX7_isSheet, Cond.static yX7_isSheet, Cond.initialized RX7, Cond.code yX7_isSheet cX7_isSheet 1 (some .boolean), Cond.methodLink RX7 108 yX7_isWithin, Cond.static yX7_isWithin, Cond.code yX7_isWithin cX7_isWithin 3 (some .boolean), Cond.methodLink RX7 58 yX7_isSort, Cond.static yX7_isSort, Cond.code yX7_isSort cX7_isSort 1 (some .boolean), Cond.methodLink RX7 69 yX7_failed, Cond.instanceMethod yX7_failed, Cond.selects RX7 yX7_failed yX7_failed, Cond.code yX7_failed cX7_failed 2 (some .int), Cond.methodLink RX7 248 yX5_begin, Cond.instanceMethod yX5_begin, Cond.selects RX5 yX5_begin yX5_begin, Cond.initialized RX5, Cond.code yX5_begin cX5_begin 3 none, Cond.fieldLink RX5 15 "TouchUp$Sheet" "has" "Z", Cond.fieldLink RX5 19 "TouchUp$Sheet" "sort" "I", Cond.fieldLink RX5 23 "TouchUp$Sheet" "length" "I"]
def wsX7_sheet_r2 : List Cond := [Cond.fieldLink RX5 9 "TouchUp$Sheet" "row" "[I", Cond.methodLink RX5 26 yJ7_fill_53178, Cond.static yJ7_fill_53178, Cond.initialized RJ7, Cond.code yJ7_fill_53178 cJ7_fill_53178 4 none]
def wsX7_sheet : List Cond := .code yX7_sheet cX7_sheet 4 (some .int) :: ((wsX7_sheet_r1 ++ wsX7_sheet_r2) ++ wsX70 ++ wsX50)
def wsX7_lose : List Cond := .code yX7_lose cX7_lose 3 (some .int) :: ([.fieldLink RX7 13 "TouchUp" "sheets" "[LTouchUp$Sheet;", .fieldLink RX7 251 "TouchUp$Sheet" "has" "Z", .methodLink RX7 54 yX7_isSheet, .static yX7_isSheet, .initialized RX7, .code yX7_isSheet cX7_isSheet 1 (some .boolean), .methodLink RX7 108 yX7_isWithin, .static yX7_isWithin, .code yX7_isWithin cX7_isWithin 3 (some .boolean)] ++ wsX70 ++ wsX50)
def wsX7_put_r1 : List Cond := [Cond.fieldLink RX7 50 "TouchUp" "latestFault" "I", Cond.fieldLink RX7 13 "TouchUp" "sheets" "[LTouchUp$Sheet;", Cond.fieldLink RX7 251 "TouchUp$Sheet" "has" "Z", Cond.fieldLink RX7 254 "TouchUp$Sheet" "row" "[I", Cond.methodLink RX7 54 yX7_isSheet, Cond.static yX7_isSheet, Cond.initialized RX7, Cond.code yX7_isSheet cX7_isSheet 1 (some .boolean), Cond.methodLink RX7 108 yX7_isWithin, Cond.static yX7_isWithin, Cond.code yX7_isWithin cX7_isWithin 3 (some .boolean), Cond.methodLink RX7 69 yX7_failed, Cond.instanceMethod yX7_failed, Cond.selects RX7 yX7_failed yX7_failed, Cond.code yX7_failed cX7_failed 2 (some .int), Cond.methodLink RX7 65 yX5_reaches, Cond.instanceMethod yX5_reaches, Cond.selects RX5 yX5_reaches yX5_reaches, Cond.initialized RX5, Cond.code yX5_reaches cX5_reaches 3 (some .boolean), Cond.fieldLink RX5 23 "TouchUp$Sheet" "length" "I", Cond.methodLink RX7 257 yX5_cut, Cond.instanceMethod yX5_cut, Cond.selects RX5 yX5_cut yX5_cut]
def wsX7_put_r2 : List Cond := [Cond.code yX5_cut cX5_cut 2 (some .int), Cond.fieldLink RX5 19 "TouchUp$Sheet" "sort" "I"]
def wsX7_put : List Cond := .code yX7_put cX7_put 5 (some .int) :: ((wsX7_put_r1 ++ wsX7_put_r2) ++ wsX70 ++ wsX50)
def wsX7_cell_r1 : List Cond := [Cond.fieldLink RX7 50 "TouchUp" "latestFault" "I", Cond.constantLong RX7 246 (-9223372036854775808), Cond.fieldLink RX7 13 "TouchUp" "sheets" "[LTouchUp$Sheet;", Cond.fieldLink RX7 254 "TouchUp$Sheet" "row" "[I", Cond.methodLink RX7 54 yX7_isSheet, Cond.static yX7_isSheet, Cond.initialized RX7, Cond.code yX7_isSheet cX7_isSheet 1 (some .boolean), Cond.methodLink RX7 108 yX7_isWithin, Cond.static yX7_isWithin, Cond.code yX7_isWithin cX7_isWithin 3 (some .boolean), Cond.methodLink RX7 58 yX7_isSort, Cond.static yX7_isSort, Cond.code yX7_isSort cX7_isSort 1 (some .boolean), Cond.methodLink RX7 239 yX5_faultOfCells, Cond.instanceMethod yX5_faultOfCells, Cond.selects RX5 yX5_faultOfCells yX5_faultOfCells, Cond.initialized RX5, Cond.code yX5_faultOfCells cX5_faultOfCells 5 (some .int), Cond.methodLink RX5 32 yX5_faultAs, Cond.instanceMethod yX5_faultAs, Cond.selects RX5 yX5_faultAs yX5_faultAs, Cond.code yX5_faultAs cX5_faultAs 2 (some .int), Cond.fieldLink RX5 15 "TouchUp$Sheet" "has" "Z"]
def wsX7_cell_r2 : List Cond := [Cond.fieldLink RX5 19 "TouchUp$Sheet" "sort" "I", Cond.methodLink RX5 36 yX5_reaches, Cond.instanceMethod yX5_reaches, Cond.selects RX5 yX5_reaches yX5_reaches, Cond.code yX5_reaches cX5_reaches 3 (some .boolean), Cond.fieldLink RX5 23 "TouchUp$Sheet" "length" "I", Cond.methodLink RX7 69 yX7_failed, Cond.instanceMethod yX7_failed, Cond.selects RX7 yX7_failed yX7_failed, Cond.code yX7_failed cX7_failed 2 (some .int)]
def wsX7_cell : List Cond := .code yX7_cell cX7_cell 5 (some .long) :: ((wsX7_cell_r1 ++ wsX7_cell_r2) ++ wsX70 ++ wsX50)
def wsX7_copy_r1 : List Cond := [Cond.fieldLink RX7 50 "TouchUp" "latestFault" "I", Cond.fieldLink RX7 13 "TouchUp" "sheets" "[LTouchUp$Sheet;", Cond.fieldLink RX7 251 "TouchUp$Sheet" "has" "Z", Cond.fieldLink RX7 260 "TouchUp$Sheet" "sort" "I", Cond.fieldLink RX7 254 "TouchUp$Sheet" "row" "[I", Cond.methodLink RX7 263 arraycopyName, Cond.native arraycopyName, Cond.static arraycopyName, Cond.initialized "java/lang/System", Cond.methodLink RX7 54 yX7_isSheet, Cond.static yX7_isSheet, Cond.initialized RX7, Cond.code yX7_isSheet cX7_isSheet 1 (some .boolean), Cond.methodLink RX7 108 yX7_isWithin, Cond.static yX7_isWithin, Cond.code yX7_isWithin cX7_isWithin 3 (some .boolean), Cond.methodLink RX7 69 yX7_failed, Cond.instanceMethod yX7_failed, Cond.selects RX7 yX7_failed yX7_failed, Cond.code yX7_failed cX7_failed 2 (some .int), Cond.methodLink RX7 65 yX5_reaches, Cond.instanceMethod yX5_reaches, Cond.selects RX5 yX5_reaches yX5_reaches, Cond.initialized RX5]
def wsX7_copy_r2 : List Cond := [Cond.code yX5_reaches cX5_reaches 3 (some .boolean), Cond.fieldLink RX5 23 "TouchUp$Sheet" "length" "I"]
def wsX7_copy : List Cond := .code yX7_copy cX7_copy 8 (some .int) :: ((wsX7_copy_r1 ++ wsX7_copy_r2) ++ wsX70 ++ wsX50)
def wsX7_mark : List Cond := .code yX7_mark cX7_mark 2 none :: ([.fieldLink RX7 282 "TouchUp" "marks" "I"] ++ wsX70)
def wsX7_tellPlain : List Cond := .code yX7_tellPlain cX7_tellPlain 2 (some .int) :: ([.fieldLink RX7 155 "TouchUp$Coat" "bands" "[I", .methodLink RX7 279 yX7_mark, .instanceMethod yX7_mark, .selects RX7 yX7_mark yX7_mark, .initialized RX7, .code yX7_mark cX7_mark 2 none, .fieldLink RX7 282 "TouchUp" "marks" "I"] ++ wsX10 ++ wsX70)
def wsX7_tellShiny : List Cond := .code yX7_tellShiny cX7_tellShiny 2 (some .int) :: ([.methodLink RX7 279 yX7_mark, .instanceMethod yX7_mark, .selects RX7 yX7_mark yX7_mark, .initialized RX7, .code yX7_mark cX7_mark 2 none, .fieldLink RX7 282 "TouchUp" "marks" "I", .methodLink RX7 276 yX7_tellPlain, .instanceMethod yX7_tellPlain, .selects RX7 yX7_tellPlain yX7_tellPlain, .code yX7_tellPlain cX7_tellPlain 2 (some .int), .fieldLink RX7 155 "TouchUp$Coat" "bands" "[I"] ++ wsX70 ++ wsX10)
def wsX7_tellFast : List Cond := .code yX7_tellFast cX7_tellFast 3 (some .int) :: ([.methodLink RX7 279 yX7_mark, .instanceMethod yX7_mark, .selects RX7 yX7_mark yX7_mark, .initialized RX7, .code yX7_mark cX7_mark 2 none, .fieldLink RX7 282 "TouchUp" "marks" "I", .methodLink RX7 273 yX7_tellShiny, .instanceMethod yX7_tellShiny, .selects RX7 yX7_tellShiny yX7_tellShiny, .code yX7_tellShiny cX7_tellShiny 2 (some .int), .methodLink RX7 276 yX7_tellPlain, .instanceMethod yX7_tellPlain, .selects RX7 yX7_tellPlain yX7_tellPlain, .code yX7_tellPlain cX7_tellPlain 2 (some .int), .fieldLink RX7 155 "TouchUp$Coat" "bands" "[I"] ++ wsX70 ++ wsX10)
def wsX7_tell_r1 : List Cond := [Cond.fieldLink RX7 20 "TouchUp" "wall" "LTouchUp$Wall;", Cond.fieldLink RX7 146 "TouchUp$Wall" "coats" "[LTouchUp$Coat;", Cond.fieldLink RX7 150 "TouchUp$Coat" "kind" "I", Cond.methodLink RX7 143 yX6_hasCoat, Cond.instanceMethod yX6_hasCoat, Cond.selects RX6 yX6_hasCoat yX6_hasCoat, Cond.initialized RX6, Cond.code yX6_hasCoat cX6_hasCoat 2 (some .boolean), Cond.fieldLink RX6 60 "TouchUp$Wall" "coatCount" "I", Cond.methodLink RX7 269 yX7_tellFast, Cond.instanceMethod yX7_tellFast, Cond.selects RX7 yX7_tellFast yX7_tellFast, Cond.initialized RX7, Cond.code yX7_tellFast cX7_tellFast 3 (some .int), Cond.methodLink RX7 279 yX7_mark, Cond.instanceMethod yX7_mark, Cond.selects RX7 yX7_mark yX7_mark, Cond.code yX7_mark cX7_mark 2 none, Cond.fieldLink RX7 282 "TouchUp" "marks" "I", Cond.methodLink RX7 273 yX7_tellShiny, Cond.instanceMethod yX7_tellShiny, Cond.selects RX7 yX7_tellShiny yX7_tellShiny, Cond.code yX7_tellShiny cX7_tellShiny 2 (some .int), Cond.methodLink RX7 276 yX7_tellPlain]
def wsX7_tell_r2 : List Cond := [Cond.instanceMethod yX7_tellPlain, Cond.selects RX7 yX7_tellPlain yX7_tellPlain, Cond.code yX7_tellPlain cX7_tellPlain 2 (some .int), Cond.fieldLink RX7 155 "TouchUp$Coat" "bands" "[I"]
def wsX7_tell : List Cond := .code yX7_tell cX7_tell 3 (some .int) :: ((wsX7_tell_r1 ++ wsX7_tell_r2) ++ wsX70 ++ wsX60 ++ wsX10)
def wsX7_name : List Cond := .code yX7_name cX7_name 2 (some .int) :: ([.fieldLink RX7 20 "TouchUp" "wall" "LTouchUp$Wall;", .fieldLink RX7 146 "TouchUp$Wall" "coats" "[LTouchUp$Coat;", .fieldLink RX7 150 "TouchUp$Coat" "kind" "I", .methodLink RX7 143 yX6_hasCoat, .instanceMethod yX6_hasCoat, .selects RX6 yX6_hasCoat yX6_hasCoat, .initialized RX6, .code yX6_hasCoat cX6_hasCoat 2 (some .boolean), .fieldLink RX6 60 "TouchUp$Wall" "coatCount" "I", .methodLink RX7 279 yX7_mark, .instanceMethod yX7_mark, .selects RX7 yX7_mark yX7_mark, .initialized RX7, .code yX7_mark cX7_mark 2 none, .fieldLink RX7 282 "TouchUp" "marks" "I"] ++ wsX70 ++ wsX60 ++ wsX10)
def wsX7_as : List Cond := .code yX7_as cX7_as 3 (some .int) :: ([.fieldLink RX7 50 "TouchUp" "latestFault" "I", .fieldLink RX7 20 "TouchUp" "wall" "LTouchUp$Wall;", .fieldLink RX7 146 "TouchUp$Wall" "coats" "[LTouchUp$Coat;", .fieldLink RX7 150 "TouchUp$Coat" "kind" "I", .methodLink RX7 143 yX6_hasCoat, .instanceMethod yX6_hasCoat, .selects RX6 yX6_hasCoat yX6_hasCoat, .initialized RX6, .code yX6_hasCoat cX6_hasCoat 2 (some .boolean), .fieldLink RX6 60 "TouchUp$Wall" "coatCount" "I", .methodLink RX7 129 yX7_isKind, .static yX7_isKind, .initialized RX7, .code yX7_isKind cX7_isKind 1 (some .boolean), .methodLink RX7 108 yX7_isWithin, .static yX7_isWithin, .code yX7_isWithin cX7_isWithin 3 (some .boolean), .methodLink RX7 69 yX7_failed, .instanceMethod yX7_failed, .selects RX7 yX7_failed yX7_failed, .code yX7_failed cX7_failed 2 (some .int)] ++ wsX70 ++ wsX60 ++ wsX10)
def wsX7_trace : List Cond := .code yX7_trace cX7_trace 1 (some .int) :: ([.fieldLink RX7 282 "TouchUp" "marks" "I"] ++ wsX70)
def wsX7_fault : List Cond := .code yX7_fault cX7_fault 1 (some .int) :: ([.fieldLink RX7 50 "TouchUp" "latestFault" "I"] ++ wsX70)
def wsX7_many : List Cond := .code yX7_many cX7_many 2 (some .int) :: ([.fieldLink RX7 20 "TouchUp" "wall" "LTouchUp$Wall;", .fieldLink RX7 80 "TouchUp$Wall" "count" "I", .fieldLink RX7 285 "TouchUp$Wall" "wide" "I", .fieldLink RX7 136 "TouchUp$Wall" "coatCount" "I", .fieldLink RX7 166 "TouchUp$Wall" "lightCount" "I", .fieldLink RX7 122 "TouchUp$Wall" "year" "I", .fieldLink RX7 116 "TouchUp$Wall" "smoke" "I", .fieldLink RX7 119 "TouchUp$Wall" "line" "I"] ++ wsX70 ++ wsX60)
def wsX8_init : List Cond := .code yX8_init cX8_init 1 none :: ([.methodLink RX8 1 objectInit, .instanceMethod objectInit, .code objectInit ⟨#[0xb1]⟩ 1 none, .arrayClass .int, .fieldLink RX8 9 "TouchUpModel" "sorts" "[I", .fieldLink RX8 13 "TouchUpModel" "sheetLong" "[I", .fieldLink RX8 16 "TouchUpModel" "cells" "[I", .fieldLink RX8 19 "TouchUpModel" "sun" "[I", .fieldLink RX8 22 "TouchUpModel" "coatOf" "[I", .fieldLink RX8 25 "TouchUpModel" "had" "[I", .fieldLink RX8 28 "TouchUpModel" "air" "[I", .arrayClass .boolean, .fieldLink RX8 31 "TouchUpModel" "isHung" "[Z", .fieldLink RX8 35 "TouchUpModel" "readSun" "[I", .fieldLink RX8 38 "TouchUpModel" "kind" "[I", .fieldLink RX8 41 "TouchUpModel" "bands" "[I", .fieldLink RX8 44 "TouchUpModel" "weights" "[I", .fieldLink RX8 47 "TouchUpModel" "drops" "[I", .fieldLink RX8 50 "TouchUpModel" "mixBands" "[I", .fieldLink RX8 53 "TouchUpModel" "bestDrops" "[I", .fieldLink RX8 56 "TouchUpModel" "keptCoat" "[I", .fieldLink RX8 59 "TouchUpModel" "keptHad" "[I", .fieldLink RX8 62 "TouchUpModel" "keptAir" "[I"] ++ wsX80)
def wsX8_fails : List Cond := .code yX8_fails cX8_fails 2 (some .int) :: ([.fieldLink RX8 65 "TouchUpModel" "fault" "I"] ++ wsX80)
def wsX8_lost : List Cond := .code yX8_lost cX8_lost 2 (some .long) :: ([.fieldLink RX8 65 "TouchUpModel" "fault" "I", .constantLong RX8 69 (-9223372036854775808)] ++ wsX80)
def wsX8_within : List Cond := .code yX8_within cX8_within 3 (some .boolean) :: ([])
def wsX8_isSheet : List Cond := .code yX8_isSheet cX8_isSheet 1 (some .boolean) :: ([.methodLink RX8 71 yX8_within, .static yX8_within, .initialized RX8, .code yX8_within cX8_within 3 (some .boolean)])
def wsX8_isSort : List Cond := .code yX8_isSort cX8_isSort 1 (some .boolean) :: ([.methodLink RX8 71 yX8_within, .static yX8_within, .initialized RX8, .code yX8_within cX8_within 3 (some .boolean)])
def wsX8_against : List Cond := .code yX8_against cX8_against 5 (some .int) :: ([.fieldLink RX8 9 "TouchUpModel" "sorts" "[I", .fieldLink RX8 13 "TouchUpModel" "sheetLong" "[I"] ++ wsX80)
def wsX8_all : List Cond := .code yX8_all cX8_all 1 (some .int) :: ([.fieldLink RX8 75 "TouchUpModel" "high" "I", .fieldLink RX8 78 "TouchUpModel" "wide" "I"] ++ wsX80)
def wsX8_isCell : List Cond := .code yX8_isCell cX8_isCell 2 (some .boolean) :: ([.methodLink RX8 81 yX8_all, .instanceMethod yX8_all, .selects RX8 yX8_all yX8_all, .initialized RX8, .code yX8_all cX8_all 1 (some .int), .fieldLink RX8 75 "TouchUpModel" "high" "I", .fieldLink RX8 78 "TouchUpModel" "wide" "I"] ++ wsX80)
def wsX8_digit : List Cond := .code yX8_digit cX8_digit 4 (some .int) :: ([.fieldLink RX8 85 "TouchUpModel" "at" "I", .fieldLink RX8 16 "TouchUpModel" "cells" "[I", .methodLink RX8 71 yX8_within, .static yX8_within, .initialized RX8, .code yX8_within cX8_within 3 (some .boolean)] ++ wsX80)
def wsX8_readWall : List Cond := .code yX8_readWall cX8_readWall 5 (some .boolean) :: ([.fieldLink RX8 85 "TouchUpModel" "at" "I", .fieldLink RX8 16 "TouchUpModel" "cells" "[I", .fieldLink RX8 106 "TouchUpModel" "readHigh" "I", .fieldLink RX8 109 "TouchUpModel" "readWide" "I", .fieldLink RX8 35 "TouchUpModel" "readSun" "[I", .methodLink RX8 130 yX8_digit, .instanceMethod yX8_digit, .selects RX8 yX8_digit yX8_digit, .initialized RX8, .code yX8_digit cX8_digit 4 (some .int), .methodLink RX8 71 yX8_within, .static yX8_within, .code yX8_within cX8_within 3 (some .boolean)] ++ wsX80)
def wsX8_addCoat : List Cond := .code yX8_addCoat cX8_addCoat 5 (some .int) :: ([.fieldLink RX8 38 "TouchUpModel" "kind" "[I", .fieldLink RX8 124 "TouchUpModel" "coats" "I", .fieldLink RX8 41 "TouchUpModel" "bands" "[I"] ++ wsX80)
def wsX8_wall_r1 : List Cond := [Cond.fieldLink RX8 65 "TouchUpModel" "fault" "I", Cond.fieldLink RX8 85 "TouchUpModel" "at" "I", Cond.fieldLink RX8 106 "TouchUpModel" "readHigh" "I", Cond.fieldLink RX8 75 "TouchUpModel" "high" "I", Cond.fieldLink RX8 109 "TouchUpModel" "readWide" "I", Cond.fieldLink RX8 78 "TouchUpModel" "wide" "I", Cond.fieldLink RX8 19 "TouchUpModel" "sun" "[I", Cond.fieldLink RX8 35 "TouchUpModel" "readSun" "[I", Cond.fieldLink RX8 22 "TouchUpModel" "coatOf" "[I", Cond.fieldLink RX8 25 "TouchUpModel" "had" "[I", Cond.fieldLink RX8 28 "TouchUpModel" "air" "[I", Cond.fieldLink RX8 31 "TouchUpModel" "isHung" "[Z", Cond.fieldLink RX8 112 "TouchUpModel" "year" "I", Cond.fieldLink RX8 115 "TouchUpModel" "smoke" "I", Cond.fieldLink RX8 118 "TouchUpModel" "line" "I", Cond.fieldLink RX8 121 "TouchUpModel" "lights" "I", Cond.fieldLink RX8 124 "TouchUpModel" "coats" "I", Cond.methodLink RX8 88 yX8_isSheet, Cond.static yX8_isSheet, Cond.initialized RX8, Cond.code yX8_isSheet cX8_isSheet 1 (some .boolean), Cond.methodLink RX8 71 yX8_within, Cond.static yX8_within, Cond.code yX8_within cX8_within 3 (some .boolean)]
def wsX8_wall_r2 : List Cond := [Cond.methodLink RX8 92 yX8_isSort, Cond.static yX8_isSort, Cond.code yX8_isSort cX8_isSort 1 (some .boolean), Cond.methodLink RX8 95 yX8_against, Cond.instanceMethod yX8_against, Cond.selects RX8 yX8_against yX8_against, Cond.code yX8_against cX8_against 5 (some .int), Cond.fieldLink RX8 9 "TouchUpModel" "sorts" "[I", Cond.fieldLink RX8 13 "TouchUpModel" "sheetLong" "[I", Cond.methodLink RX8 99 yX8_fails, Cond.instanceMethod yX8_fails, Cond.selects RX8 yX8_fails yX8_fails, Cond.code yX8_fails cX8_fails 2 (some .int), Cond.methodLink RX8 103 yX8_readWall, Cond.instanceMethod yX8_readWall, Cond.selects RX8 yX8_readWall yX8_readWall, Cond.code yX8_readWall cX8_readWall 5 (some .boolean), Cond.fieldLink RX8 16 "TouchUpModel" "cells" "[I", Cond.methodLink RX8 130 yX8_digit, Cond.instanceMethod yX8_digit, Cond.selects RX8 yX8_digit yX8_digit, Cond.code yX8_digit cX8_digit 4 (some .int), Cond.methodLink RX8 81 yX8_all, Cond.instanceMethod yX8_all]
def wsX8_wall_r3 : List Cond := [Cond.selects RX8 yX8_all yX8_all, Cond.code yX8_all cX8_all 1 (some .int), Cond.methodLink RX8 127 yX8_addCoat, Cond.instanceMethod yX8_addCoat, Cond.selects RX8 yX8_addCoat yX8_addCoat, Cond.code yX8_addCoat cX8_addCoat 5 (some .int), Cond.fieldLink RX8 38 "TouchUpModel" "kind" "[I", Cond.fieldLink RX8 41 "TouchUpModel" "bands" "[I"]
def wsX8_wall : List Cond := .code yX8_wall cX8_wall 8 (some .int) :: ((wsX8_wall_r1 ++ (wsX8_wall_r2 ++ wsX8_wall_r3)) ++ wsX80)
def wsX8_ofCell : List Cond := .code yX8_ofCell cX8_ofCell 3 (some .int) :: ([.fieldLink RX8 19 "TouchUpModel" "sun" "[I", .fieldLink RX8 22 "TouchUpModel" "coatOf" "[I", .fieldLink RX8 25 "TouchUpModel" "had" "[I", .fieldLink RX8 28 "TouchUpModel" "air" "[I", .fieldLink RX8 31 "TouchUpModel" "isHung" "[Z", .methodLink RX8 134 yX8_isCell, .instanceMethod yX8_isCell, .selects RX8 yX8_isCell yX8_isCell, .initialized RX8, .code yX8_isCell cX8_isCell 2 (some .boolean), .methodLink RX8 81 yX8_all, .instanceMethod yX8_all, .selects RX8 yX8_all yX8_all, .code yX8_all cX8_all 1 (some .int), .fieldLink RX8 75 "TouchUpModel" "high" "I", .fieldLink RX8 78 "TouchUpModel" "wide" "I"] ++ wsX80)
def wsX8_set : List Cond := .code yX8_set cX8_set 4 (some .int) :: ([.fieldLink RX8 115 "TouchUpModel" "smoke" "I", .fieldLink RX8 118 "TouchUpModel" "line" "I", .methodLink RX8 71 yX8_within, .static yX8_within, .initialized RX8, .code yX8_within cX8_within 3 (some .boolean), .methodLink RX8 81 yX8_all, .instanceMethod yX8_all, .selects RX8 yX8_all yX8_all, .code yX8_all cX8_all 1 (some .int), .fieldLink RX8 75 "TouchUpModel" "high" "I", .fieldLink RX8 78 "TouchUpModel" "wide" "I"] ++ wsX80)
def wsX8_years : List Cond := .code yX8_years cX8_years 3 (some .int) :: ([.fieldLink RX8 112 "TouchUpModel" "year" "I", .fieldLink RX8 31 "TouchUpModel" "isHung" "[Z", .fieldLink RX8 25 "TouchUpModel" "had" "[I", .fieldLink RX8 19 "TouchUpModel" "sun" "[I", .fieldLink RX8 28 "TouchUpModel" "air" "[I", .methodLink RX8 71 yX8_within, .static yX8_within, .initialized RX8, .code yX8_within cX8_within 3 (some .boolean), .methodLink RX8 81 yX8_all, .instanceMethod yX8_all, .selects RX8 yX8_all yX8_all, .code yX8_all cX8_all 1 (some .int), .fieldLink RX8 75 "TouchUpModel" "high" "I", .fieldLink RX8 78 "TouchUpModel" "wide" "I"] ++ wsX80)
def wsX8_hang : List Cond := .code yX8_hang cX8_hang 4 (some .int) :: ([.fieldLink RX8 31 "TouchUpModel" "isHung" "[Z", .methodLink RX8 134 yX8_isCell, .instanceMethod yX8_isCell, .selects RX8 yX8_isCell yX8_isCell, .initialized RX8, .code yX8_isCell cX8_isCell 2 (some .boolean), .methodLink RX8 81 yX8_all, .instanceMethod yX8_all, .selects RX8 yX8_all yX8_all, .code yX8_all cX8_all 1 (some .int), .fieldLink RX8 75 "TouchUpModel" "high" "I", .fieldLink RX8 78 "TouchUpModel" "wide" "I"] ++ wsX80)
def wsX8_isCoat : List Cond := .code yX8_isCoat cX8_isCoat 2 (some .boolean) :: ([.fieldLink RX8 124 "TouchUpModel" "coats" "I"] ++ wsX80)
def wsX8_isLight : List Cond := .code yX8_isLight cX8_isLight 2 (some .boolean) :: ([.fieldLink RX8 121 "TouchUpModel" "lights" "I"] ++ wsX80)
def wsX8_coat : List Cond := .code yX8_coat cX8_coat 5 (some .int) :: ([.fieldLink RX8 124 "TouchUpModel" "coats" "I", .methodLink RX8 71 yX8_within, .static yX8_within, .initialized RX8, .code yX8_within cX8_within 3 (some .boolean), .methodLink RX8 81 yX8_all, .instanceMethod yX8_all, .selects RX8 yX8_all yX8_all, .code yX8_all cX8_all 1 (some .int), .fieldLink RX8 75 "TouchUpModel" "high" "I", .fieldLink RX8 78 "TouchUpModel" "wide" "I", .methodLink RX8 127 yX8_addCoat, .instanceMethod yX8_addCoat, .selects RX8 yX8_addCoat yX8_addCoat, .code yX8_addCoat cX8_addCoat 5 (some .int), .fieldLink RX8 38 "TouchUpModel" "kind" "[I", .fieldLink RX8 41 "TouchUpModel" "bands" "[I"] ++ wsX80)
def wsX8_ofCoat : List Cond := .code yX8_ofCoat cX8_ofCoat 3 (some .int) :: ([.fieldLink RX8 38 "TouchUpModel" "kind" "[I", .fieldLink RX8 41 "TouchUpModel" "bands" "[I", .methodLink RX8 137 yX8_isCoat, .instanceMethod yX8_isCoat, .selects RX8 yX8_isCoat yX8_isCoat, .initialized RX8, .code yX8_isCoat cX8_isCoat 2 (some .boolean), .fieldLink RX8 124 "TouchUpModel" "coats" "I", .methodLink RX8 71 yX8_within, .static yX8_within, .code yX8_within cX8_within 3 (some .boolean)] ++ wsX80)
def wsX8_paint : List Cond := .code yX8_paint cX8_paint 4 (some .int) :: ([.fieldLink RX8 22 "TouchUpModel" "coatOf" "[I", .fieldLink RX8 25 "TouchUpModel" "had" "[I", .fieldLink RX8 28 "TouchUpModel" "air" "[I", .methodLink RX8 134 yX8_isCell, .instanceMethod yX8_isCell, .selects RX8 yX8_isCell yX8_isCell, .initialized RX8, .code yX8_isCell cX8_isCell 2 (some .boolean), .methodLink RX8 81 yX8_all, .instanceMethod yX8_all, .selects RX8 yX8_all yX8_all, .code yX8_all cX8_all 1 (some .int), .fieldLink RX8 75 "TouchUpModel" "high" "I", .fieldLink RX8 78 "TouchUpModel" "wide" "I", .methodLink RX8 137 yX8_isCoat, .instanceMethod yX8_isCoat, .selects RX8 yX8_isCoat yX8_isCoat, .code yX8_isCoat cX8_isCoat 2 (some .boolean), .fieldLink RX8 124 "TouchUpModel" "coats" "I"] ++ wsX80)
def wsX8_comes : List Cond := .code yX8_comes cX8_comes 9 (some .int) :: ([.fieldLink RX8 115 "TouchUpModel" "smoke" "I"] ++ wsX80)
def wsX8_comesOf : List Cond := .code yX8_comesOf cX8_comesOf 6 (some .int) :: ([.fieldLink RX8 38 "TouchUpModel" "kind" "[I", .fieldLink RX8 41 "TouchUpModel" "bands" "[I", .methodLink RX8 140 yX8_comes, .instanceMethod yX8_comes, .selects RX8 yX8_comes yX8_comes, .initialized RX8, .code yX8_comes cX8_comes 9 (some .int), .fieldLink RX8 115 "TouchUpModel" "smoke" "I"] ++ wsX80)
def wsX8_back_r1 : List Cond := [Cond.fieldLink RX8 22 "TouchUpModel" "coatOf" "[I", Cond.fieldLink RX8 25 "TouchUpModel" "had" "[I", Cond.fieldLink RX8 28 "TouchUpModel" "air" "[I", Cond.methodLink RX8 134 yX8_isCell, Cond.instanceMethod yX8_isCell, Cond.selects RX8 yX8_isCell yX8_isCell, Cond.initialized RX8, Cond.code yX8_isCell cX8_isCell 2 (some .boolean), Cond.methodLink RX8 81 yX8_all, Cond.instanceMethod yX8_all, Cond.selects RX8 yX8_all yX8_all, Cond.code yX8_all cX8_all 1 (some .int), Cond.fieldLink RX8 75 "TouchUpModel" "high" "I", Cond.fieldLink RX8 78 "TouchUpModel" "wide" "I", Cond.methodLink RX8 71 yX8_within, Cond.static yX8_within, Cond.code yX8_within cX8_within 3 (some .boolean), Cond.methodLink RX8 144 yX8_comesOf, Cond.instanceMethod yX8_comesOf, Cond.selects RX8 yX8_comesOf yX8_comesOf, Cond.code yX8_comesOf cX8_comesOf 6 (some .int), Cond.fieldLink RX8 38 "TouchUpModel" "kind" "[I", Cond.fieldLink RX8 41 "TouchUpModel" "bands" "[I", Cond.methodLink RX8 140 yX8_comes]
def wsX8_back_r2 : List Cond := [Cond.instanceMethod yX8_comes, Cond.selects RX8 yX8_comes yX8_comes, Cond.code yX8_comes cX8_comes 9 (some .int), Cond.fieldLink RX8 115 "TouchUpModel" "smoke" "I"]
def wsX8_back : List Cond := .code yX8_back cX8_back 4 (some .int) :: ((wsX8_back_r1 ++ wsX8_back_r2) ++ wsX80)
def wsX8_light : List Cond := .code yX8_light cX8_light 4 (some .int) :: ([.fieldLink RX8 121 "TouchUpModel" "lights" "I", .fieldLink RX8 44 "TouchUpModel" "weights" "[I", .methodLink RX8 71 yX8_within, .static yX8_within, .initialized RX8, .code yX8_within cX8_within 3 (some .boolean), .methodLink RX8 81 yX8_all, .instanceMethod yX8_all, .selects RX8 yX8_all yX8_all, .code yX8_all cX8_all 1 (some .int), .fieldLink RX8 75 "TouchUpModel" "high" "I", .fieldLink RX8 78 "TouchUpModel" "wide" "I"] ++ wsX80)
def wsX8_lookOf : List Cond := .code yX8_lookOf cX8_lookOf 8 (some .int) :: ([.fieldLink RX8 44 "TouchUpModel" "weights" "[I", .methodLink RX8 144 yX8_comesOf, .instanceMethod yX8_comesOf, .selects RX8 yX8_comesOf yX8_comesOf, .initialized RX8, .code yX8_comesOf cX8_comesOf 6 (some .int), .fieldLink RX8 38 "TouchUpModel" "kind" "[I", .fieldLink RX8 41 "TouchUpModel" "bands" "[I", .methodLink RX8 140 yX8_comes, .instanceMethod yX8_comes, .selects RX8 yX8_comes yX8_comes, .code yX8_comes cX8_comes 9 (some .int), .fieldLink RX8 115 "TouchUpModel" "smoke" "I"] ++ wsX80)
def wsX8_lookNow : List Cond := .code yX8_lookNow cX8_lookNow 4 (some .int) :: ([.fieldLink RX8 22 "TouchUpModel" "coatOf" "[I", .fieldLink RX8 25 "TouchUpModel" "had" "[I", .fieldLink RX8 28 "TouchUpModel" "air" "[I", .methodLink RX8 148 yX8_lookOf, .instanceMethod yX8_lookOf, .selects RX8 yX8_lookOf yX8_lookOf, .initialized RX8, .code yX8_lookOf cX8_lookOf 8 (some .int), .fieldLink RX8 44 "TouchUpModel" "weights" "[I", .methodLink RX8 144 yX8_comesOf, .instanceMethod yX8_comesOf, .selects RX8 yX8_comesOf yX8_comesOf, .code yX8_comesOf cX8_comesOf 6 (some .int), .fieldLink RX8 38 "TouchUpModel" "kind" "[I", .fieldLink RX8 41 "TouchUpModel" "bands" "[I", .methodLink RX8 140 yX8_comes, .instanceMethod yX8_comes, .selects RX8 yX8_comes yX8_comes, .code yX8_comes cX8_comes 9 (some .int), .fieldLink RX8 115 "TouchUpModel" "smoke" "I"] ++ wsX80)
def wsX8_look_r1 : List Cond := [Cond.methodLink RX8 134 yX8_isCell, Cond.instanceMethod yX8_isCell, Cond.selects RX8 yX8_isCell yX8_isCell, Cond.initialized RX8, Cond.code yX8_isCell cX8_isCell 2 (some .boolean), Cond.methodLink RX8 81 yX8_all, Cond.instanceMethod yX8_all, Cond.selects RX8 yX8_all yX8_all, Cond.code yX8_all cX8_all 1 (some .int), Cond.fieldLink RX8 75 "TouchUpModel" "high" "I", Cond.fieldLink RX8 78 "TouchUpModel" "wide" "I", Cond.methodLink RX8 151 yX8_isLight, Cond.instanceMethod yX8_isLight, Cond.selects RX8 yX8_isLight yX8_isLight, Cond.code yX8_isLight cX8_isLight 2 (some .boolean), Cond.fieldLink RX8 121 "TouchUpModel" "lights" "I", Cond.methodLink RX8 154 yX8_lookNow, Cond.instanceMethod yX8_lookNow, Cond.selects RX8 yX8_lookNow yX8_lookNow, Cond.code yX8_lookNow cX8_lookNow 4 (some .int), Cond.fieldLink RX8 22 "TouchUpModel" "coatOf" "[I", Cond.fieldLink RX8 25 "TouchUpModel" "had" "[I", Cond.fieldLink RX8 28 "TouchUpModel" "air" "[I", Cond.methodLink RX8 148 yX8_lookOf]
def wsX8_look_r2 : List Cond := [Cond.instanceMethod yX8_lookOf, Cond.selects RX8 yX8_lookOf yX8_lookOf, Cond.code yX8_lookOf cX8_lookOf 8 (some .int), Cond.fieldLink RX8 44 "TouchUpModel" "weights" "[I", Cond.methodLink RX8 144 yX8_comesOf, Cond.instanceMethod yX8_comesOf, Cond.selects RX8 yX8_comesOf yX8_comesOf, Cond.code yX8_comesOf cX8_comesOf 6 (some .int), Cond.fieldLink RX8 38 "TouchUpModel" "kind" "[I", Cond.fieldLink RX8 41 "TouchUpModel" "bands" "[I", Cond.methodLink RX8 140 yX8_comes, Cond.instanceMethod yX8_comes, Cond.selects RX8 yX8_comes yX8_comes, Cond.code yX8_comes cX8_comes 9 (some .int), Cond.fieldLink RX8 115 "TouchUpModel" "smoke" "I"]
def wsX8_look : List Cond := .code yX8_look cX8_look 4 (some .int) :: ((wsX8_look_r1 ++ wsX8_look_r2) ++ wsX80)
def wsX8_size : List Cond := .code yX8_size cX8_size 1 (some .int) :: ([])
def wsX8_unlike_r1 : List Cond := [Cond.methodLink RX8 134 yX8_isCell, Cond.instanceMethod yX8_isCell, Cond.selects RX8 yX8_isCell yX8_isCell, Cond.initialized RX8, Cond.code yX8_isCell cX8_isCell 2 (some .boolean), Cond.methodLink RX8 81 yX8_all, Cond.instanceMethod yX8_all, Cond.selects RX8 yX8_all yX8_all, Cond.code yX8_all cX8_all 1 (some .int), Cond.fieldLink RX8 75 "TouchUpModel" "high" "I", Cond.fieldLink RX8 78 "TouchUpModel" "wide" "I", Cond.methodLink RX8 151 yX8_isLight, Cond.instanceMethod yX8_isLight, Cond.selects RX8 yX8_isLight yX8_isLight, Cond.code yX8_isLight cX8_isLight 2 (some .boolean), Cond.fieldLink RX8 121 "TouchUpModel" "lights" "I", Cond.methodLink RX8 154 yX8_lookNow, Cond.instanceMethod yX8_lookNow, Cond.selects RX8 yX8_lookNow yX8_lookNow, Cond.code yX8_lookNow cX8_lookNow 4 (some .int), Cond.fieldLink RX8 22 "TouchUpModel" "coatOf" "[I", Cond.fieldLink RX8 25 "TouchUpModel" "had" "[I", Cond.fieldLink RX8 28 "TouchUpModel" "air" "[I", Cond.methodLink RX8 148 yX8_lookOf]
def wsX8_unlike_r2 : List Cond := [Cond.instanceMethod yX8_lookOf, Cond.selects RX8 yX8_lookOf yX8_lookOf, Cond.code yX8_lookOf cX8_lookOf 8 (some .int), Cond.fieldLink RX8 44 "TouchUpModel" "weights" "[I", Cond.methodLink RX8 144 yX8_comesOf, Cond.instanceMethod yX8_comesOf, Cond.selects RX8 yX8_comesOf yX8_comesOf, Cond.code yX8_comesOf cX8_comesOf 6 (some .int), Cond.fieldLink RX8 38 "TouchUpModel" "kind" "[I", Cond.fieldLink RX8 41 "TouchUpModel" "bands" "[I", Cond.methodLink RX8 140 yX8_comes, Cond.instanceMethod yX8_comes, Cond.selects RX8 yX8_comes yX8_comes, Cond.code yX8_comes cX8_comes 9 (some .int), Cond.fieldLink RX8 115 "TouchUpModel" "smoke" "I", Cond.methodLink RX8 158 yX8_size, Cond.static yX8_size, Cond.code yX8_size cX8_size 1 (some .int)]
def wsX8_unlike : List Cond := .code yX8_unlike cX8_unlike 5 (some .int) :: ((wsX8_unlike_r1 ++ wsX8_unlike_r2) ++ wsX80)
def wsX8_isEdge_r1 : List Cond := [Cond.fieldLink RX8 121 "TouchUpModel" "lights" "I", Cond.fieldLink RX8 118 "TouchUpModel" "line" "I", Cond.methodLink RX8 154 yX8_lookNow, Cond.instanceMethod yX8_lookNow, Cond.selects RX8 yX8_lookNow yX8_lookNow, Cond.initialized RX8, Cond.code yX8_lookNow cX8_lookNow 4 (some .int), Cond.fieldLink RX8 22 "TouchUpModel" "coatOf" "[I", Cond.fieldLink RX8 25 "TouchUpModel" "had" "[I", Cond.fieldLink RX8 28 "TouchUpModel" "air" "[I", Cond.methodLink RX8 148 yX8_lookOf, Cond.instanceMethod yX8_lookOf, Cond.selects RX8 yX8_lookOf yX8_lookOf, Cond.code yX8_lookOf cX8_lookOf 8 (some .int), Cond.fieldLink RX8 44 "TouchUpModel" "weights" "[I", Cond.methodLink RX8 144 yX8_comesOf, Cond.instanceMethod yX8_comesOf, Cond.selects RX8 yX8_comesOf yX8_comesOf, Cond.code yX8_comesOf cX8_comesOf 6 (some .int), Cond.fieldLink RX8 38 "TouchUpModel" "kind" "[I", Cond.fieldLink RX8 41 "TouchUpModel" "bands" "[I", Cond.methodLink RX8 140 yX8_comes, Cond.instanceMethod yX8_comes, Cond.selects RX8 yX8_comes yX8_comes]
def wsX8_isEdge_r2 : List Cond := [Cond.code yX8_comes cX8_comes 9 (some .int), Cond.fieldLink RX8 115 "TouchUpModel" "smoke" "I", Cond.methodLink RX8 158 yX8_size, Cond.static yX8_size, Cond.code yX8_size cX8_size 1 (some .int)]
def wsX8_isEdge : List Cond := .code yX8_isEdge cX8_isEdge 5 (some .boolean) :: ((wsX8_isEdge_r1 ++ wsX8_isEdge_r2) ++ wsX80)
def wsX8_seenOf_r1 : List Cond := [Cond.fieldLink RX8 78 "TouchUpModel" "wide" "I", Cond.fieldLink RX8 75 "TouchUpModel" "high" "I", Cond.methodLink RX8 81 yX8_all, Cond.instanceMethod yX8_all, Cond.selects RX8 yX8_all yX8_all, Cond.initialized RX8, Cond.code yX8_all cX8_all 1 (some .int), Cond.methodLink RX8 161 yX8_isEdge, Cond.instanceMethod yX8_isEdge, Cond.selects RX8 yX8_isEdge yX8_isEdge, Cond.code yX8_isEdge cX8_isEdge 5 (some .boolean), Cond.fieldLink RX8 121 "TouchUpModel" "lights" "I", Cond.fieldLink RX8 118 "TouchUpModel" "line" "I", Cond.methodLink RX8 154 yX8_lookNow, Cond.instanceMethod yX8_lookNow, Cond.selects RX8 yX8_lookNow yX8_lookNow, Cond.code yX8_lookNow cX8_lookNow 4 (some .int), Cond.fieldLink RX8 22 "TouchUpModel" "coatOf" "[I", Cond.fieldLink RX8 25 "TouchUpModel" "had" "[I", Cond.fieldLink RX8 28 "TouchUpModel" "air" "[I", Cond.methodLink RX8 148 yX8_lookOf, Cond.instanceMethod yX8_lookOf, Cond.selects RX8 yX8_lookOf yX8_lookOf, Cond.code yX8_lookOf cX8_lookOf 8 (some .int)]
def wsX8_seenOf_r2 : List Cond := [Cond.fieldLink RX8 44 "TouchUpModel" "weights" "[I", Cond.methodLink RX8 144 yX8_comesOf, Cond.instanceMethod yX8_comesOf, Cond.selects RX8 yX8_comesOf yX8_comesOf, Cond.code yX8_comesOf cX8_comesOf 6 (some .int), Cond.fieldLink RX8 38 "TouchUpModel" "kind" "[I", Cond.fieldLink RX8 41 "TouchUpModel" "bands" "[I", Cond.methodLink RX8 140 yX8_comes, Cond.instanceMethod yX8_comes, Cond.selects RX8 yX8_comes yX8_comes, Cond.code yX8_comes cX8_comes 9 (some .int), Cond.fieldLink RX8 115 "TouchUpModel" "smoke" "I", Cond.methodLink RX8 158 yX8_size, Cond.static yX8_size, Cond.code yX8_size cX8_size 1 (some .int)]
def wsX8_seenOf : List Cond := .code yX8_seenOf cX8_seenOf 6 (some .int) :: ((wsX8_seenOf_r1 ++ wsX8_seenOf_r2) ++ wsX80)
def wsX8_seen_r1 : List Cond := [Cond.methodLink RX8 165 yX8_seenOf, Cond.instanceMethod yX8_seenOf, Cond.selects RX8 yX8_seenOf yX8_seenOf, Cond.initialized RX8, Cond.code yX8_seenOf cX8_seenOf 6 (some .int), Cond.fieldLink RX8 78 "TouchUpModel" "wide" "I", Cond.fieldLink RX8 75 "TouchUpModel" "high" "I", Cond.methodLink RX8 81 yX8_all, Cond.instanceMethod yX8_all, Cond.selects RX8 yX8_all yX8_all, Cond.code yX8_all cX8_all 1 (some .int), Cond.methodLink RX8 161 yX8_isEdge, Cond.instanceMethod yX8_isEdge, Cond.selects RX8 yX8_isEdge yX8_isEdge, Cond.code yX8_isEdge cX8_isEdge 5 (some .boolean), Cond.fieldLink RX8 121 "TouchUpModel" "lights" "I", Cond.fieldLink RX8 118 "TouchUpModel" "line" "I", Cond.methodLink RX8 154 yX8_lookNow, Cond.instanceMethod yX8_lookNow, Cond.selects RX8 yX8_lookNow yX8_lookNow, Cond.code yX8_lookNow cX8_lookNow 4 (some .int), Cond.fieldLink RX8 22 "TouchUpModel" "coatOf" "[I", Cond.fieldLink RX8 25 "TouchUpModel" "had" "[I", Cond.fieldLink RX8 28 "TouchUpModel" "air" "[I"]
def wsX8_seen_r2 : List Cond := [Cond.methodLink RX8 148 yX8_lookOf, Cond.instanceMethod yX8_lookOf, Cond.selects RX8 yX8_lookOf yX8_lookOf, Cond.code yX8_lookOf cX8_lookOf 8 (some .int), Cond.fieldLink RX8 44 "TouchUpModel" "weights" "[I", Cond.methodLink RX8 144 yX8_comesOf, Cond.instanceMethod yX8_comesOf, Cond.selects RX8 yX8_comesOf yX8_comesOf, Cond.code yX8_comesOf cX8_comesOf 6 (some .int), Cond.fieldLink RX8 38 "TouchUpModel" "kind" "[I", Cond.fieldLink RX8 41 "TouchUpModel" "bands" "[I", Cond.methodLink RX8 140 yX8_comes, Cond.instanceMethod yX8_comes, Cond.selects RX8 yX8_comes yX8_comes, Cond.code yX8_comes cX8_comes 9 (some .int), Cond.fieldLink RX8 115 "TouchUpModel" "smoke" "I", Cond.methodLink RX8 158 yX8_size, Cond.static yX8_size, Cond.code yX8_size cX8_size 1 (some .int), Cond.methodLink RX8 134 yX8_isCell, Cond.instanceMethod yX8_isCell, Cond.selects RX8 yX8_isCell yX8_isCell, Cond.code yX8_isCell cX8_isCell 2 (some .boolean)]
def wsX8_seen : List Cond := .code yX8_seen cX8_seen 2 (some .int) :: ((wsX8_seen_r1 ++ wsX8_seen_r2) ++ wsX80)
def wsX8_layMix : List Cond := .code yX8_layMix cX8_layMix 5 none :: ([.fieldLink RX8 168 "TouchUpModel" "mixKind" "I", .fieldLink RX8 47 "TouchUpModel" "drops" "[I", .fieldLink RX8 38 "TouchUpModel" "kind" "[I", .fieldLink RX8 41 "TouchUpModel" "bands" "[I", .fieldLink RX8 50 "TouchUpModel" "mixBands" "[I"] ++ wsX80)
def wsX8_areDrops : List Cond := .code yX8_areDrops cX8_areDrops 3 (some .boolean) :: ([.fieldLink RX8 47 "TouchUpModel" "drops" "[I", .methodLink RX8 71 yX8_within, .static yX8_within, .initialized RX8, .code yX8_within cX8_within 3 (some .boolean), .methodLink RX8 137 yX8_isCoat, .instanceMethod yX8_isCoat, .selects RX8 yX8_isCoat yX8_isCoat, .code yX8_isCoat cX8_isCoat 2 (some .boolean), .fieldLink RX8 124 "TouchUpModel" "coats" "I"] ++ wsX80)
def wsX8_mix_r1 : List Cond := [Cond.fieldLink RX8 47 "TouchUpModel" "drops" "[I", Cond.fieldLink RX8 124 "TouchUpModel" "coats" "I", Cond.fieldLink RX8 168 "TouchUpModel" "mixKind" "I", Cond.fieldLink RX8 50 "TouchUpModel" "mixBands" "[I", Cond.methodLink RX8 171 yX8_areDrops, Cond.instanceMethod yX8_areDrops, Cond.selects RX8 yX8_areDrops yX8_areDrops, Cond.initialized RX8, Cond.code yX8_areDrops cX8_areDrops 3 (some .boolean), Cond.methodLink RX8 71 yX8_within, Cond.static yX8_within, Cond.code yX8_within cX8_within 3 (some .boolean), Cond.methodLink RX8 137 yX8_isCoat, Cond.instanceMethod yX8_isCoat, Cond.selects RX8 yX8_isCoat yX8_isCoat, Cond.code yX8_isCoat cX8_isCoat 2 (some .boolean), Cond.methodLink RX8 81 yX8_all, Cond.instanceMethod yX8_all, Cond.selects RX8 yX8_all yX8_all, Cond.code yX8_all cX8_all 1 (some .int), Cond.fieldLink RX8 75 "TouchUpModel" "high" "I", Cond.fieldLink RX8 78 "TouchUpModel" "wide" "I", Cond.methodLink RX8 175 yX8_layMix, Cond.instanceMethod yX8_layMix]
def wsX8_mix_r2 : List Cond := [Cond.selects RX8 yX8_layMix yX8_layMix, Cond.code yX8_layMix cX8_layMix 5 none, Cond.fieldLink RX8 38 "TouchUpModel" "kind" "[I", Cond.fieldLink RX8 41 "TouchUpModel" "bands" "[I", Cond.methodLink RX8 127 yX8_addCoat, Cond.instanceMethod yX8_addCoat, Cond.selects RX8 yX8_addCoat yX8_addCoat, Cond.code yX8_addCoat cX8_addCoat 5 (some .int)]
def wsX8_mix : List Cond := .code yX8_mix cX8_mix 5 (some .int) :: ((wsX8_mix_r1 ++ wsX8_mix_r2) ++ wsX80)
def wsX8_mixUnlike_r1 : List Cond := [Cond.fieldLink RX8 121 "TouchUpModel" "lights" "I", Cond.fieldLink RX8 168 "TouchUpModel" "mixKind" "I", Cond.fieldLink RX8 50 "TouchUpModel" "mixBands" "[I", Cond.fieldLink RX8 44 "TouchUpModel" "weights" "[I", Cond.methodLink RX8 140 yX8_comes, Cond.instanceMethod yX8_comes, Cond.selects RX8 yX8_comes yX8_comes, Cond.initialized RX8, Cond.code yX8_comes cX8_comes 9 (some .int), Cond.fieldLink RX8 115 "TouchUpModel" "smoke" "I", Cond.methodLink RX8 154 yX8_lookNow, Cond.instanceMethod yX8_lookNow, Cond.selects RX8 yX8_lookNow yX8_lookNow, Cond.code yX8_lookNow cX8_lookNow 4 (some .int), Cond.fieldLink RX8 22 "TouchUpModel" "coatOf" "[I", Cond.fieldLink RX8 25 "TouchUpModel" "had" "[I", Cond.fieldLink RX8 28 "TouchUpModel" "air" "[I", Cond.methodLink RX8 148 yX8_lookOf, Cond.instanceMethod yX8_lookOf, Cond.selects RX8 yX8_lookOf yX8_lookOf, Cond.code yX8_lookOf cX8_lookOf 8 (some .int), Cond.methodLink RX8 144 yX8_comesOf, Cond.instanceMethod yX8_comesOf, Cond.selects RX8 yX8_comesOf yX8_comesOf]
def wsX8_mixUnlike_r2 : List Cond := [Cond.code yX8_comesOf cX8_comesOf 6 (some .int), Cond.fieldLink RX8 38 "TouchUpModel" "kind" "[I", Cond.fieldLink RX8 41 "TouchUpModel" "bands" "[I", Cond.methodLink RX8 158 yX8_size, Cond.static yX8_size, Cond.code yX8_size cX8_size 1 (some .int)]
def wsX8_mixUnlike : List Cond := .code yX8_mixUnlike cX8_mixUnlike 7 (some .int) :: ((wsX8_mixUnlike_r1 ++ wsX8_mixUnlike_r2) ++ wsX80)
def wsX8_findBest_r1 : List Cond := [Cond.fieldLink RX8 178 "TouchUpModel" "bestUnlike" "I", Cond.fieldLink RX8 47 "TouchUpModel" "drops" "[I", Cond.fieldLink RX8 53 "TouchUpModel" "bestDrops" "[I", Cond.methodLink RX8 171 yX8_areDrops, Cond.instanceMethod yX8_areDrops, Cond.selects RX8 yX8_areDrops yX8_areDrops, Cond.initialized RX8, Cond.code yX8_areDrops cX8_areDrops 3 (some .boolean), Cond.methodLink RX8 71 yX8_within, Cond.static yX8_within, Cond.code yX8_within cX8_within 3 (some .boolean), Cond.methodLink RX8 137 yX8_isCoat, Cond.instanceMethod yX8_isCoat, Cond.selects RX8 yX8_isCoat yX8_isCoat, Cond.code yX8_isCoat cX8_isCoat 2 (some .boolean), Cond.fieldLink RX8 124 "TouchUpModel" "coats" "I", Cond.methodLink RX8 175 yX8_layMix, Cond.instanceMethod yX8_layMix, Cond.selects RX8 yX8_layMix yX8_layMix, Cond.code yX8_layMix cX8_layMix 5 none, Cond.fieldLink RX8 168 "TouchUpModel" "mixKind" "I", Cond.fieldLink RX8 38 "TouchUpModel" "kind" "[I", Cond.fieldLink RX8 41 "TouchUpModel" "bands" "[I", Cond.fieldLink RX8 50 "TouchUpModel" "mixBands" "[I"]
def wsX8_findBest_r2 : List Cond := [Cond.methodLink RX8 181 yX8_mixUnlike, Cond.instanceMethod yX8_mixUnlike, Cond.selects RX8 yX8_mixUnlike yX8_mixUnlike, Cond.code yX8_mixUnlike cX8_mixUnlike 7 (some .int), Cond.fieldLink RX8 121 "TouchUpModel" "lights" "I", Cond.fieldLink RX8 44 "TouchUpModel" "weights" "[I", Cond.methodLink RX8 140 yX8_comes, Cond.instanceMethod yX8_comes, Cond.selects RX8 yX8_comes yX8_comes, Cond.code yX8_comes cX8_comes 9 (some .int), Cond.fieldLink RX8 115 "TouchUpModel" "smoke" "I", Cond.methodLink RX8 154 yX8_lookNow, Cond.instanceMethod yX8_lookNow, Cond.selects RX8 yX8_lookNow yX8_lookNow, Cond.code yX8_lookNow cX8_lookNow 4 (some .int), Cond.fieldLink RX8 22 "TouchUpModel" "coatOf" "[I", Cond.fieldLink RX8 25 "TouchUpModel" "had" "[I", Cond.fieldLink RX8 28 "TouchUpModel" "air" "[I", Cond.methodLink RX8 148 yX8_lookOf, Cond.instanceMethod yX8_lookOf, Cond.selects RX8 yX8_lookOf yX8_lookOf, Cond.code yX8_lookOf cX8_lookOf 8 (some .int), Cond.methodLink RX8 144 yX8_comesOf, Cond.instanceMethod yX8_comesOf]
def wsX8_findBest_r3 : List Cond := [Cond.selects RX8 yX8_comesOf yX8_comesOf, Cond.code yX8_comesOf cX8_comesOf 6 (some .int), Cond.methodLink RX8 158 yX8_size, Cond.static yX8_size, Cond.code yX8_size cX8_size 1 (some .int)]
def wsX8_findBest : List Cond := .code yX8_findBest cX8_findBest 6 none :: ((wsX8_findBest_r1 ++ (wsX8_findBest_r2 ++ wsX8_findBest_r3)) ++ wsX80)
def wsX8_best_r1 : List Cond := [Cond.fieldLink RX8 178 "TouchUpModel" "bestUnlike" "I", Cond.fieldLink RX8 53 "TouchUpModel" "bestDrops" "[I", Cond.methodLink RX8 134 yX8_isCell, Cond.instanceMethod yX8_isCell, Cond.selects RX8 yX8_isCell yX8_isCell, Cond.initialized RX8, Cond.code yX8_isCell cX8_isCell 2 (some .boolean), Cond.methodLink RX8 81 yX8_all, Cond.instanceMethod yX8_all, Cond.selects RX8 yX8_all yX8_all, Cond.code yX8_all cX8_all 1 (some .int), Cond.fieldLink RX8 75 "TouchUpModel" "high" "I", Cond.fieldLink RX8 78 "TouchUpModel" "wide" "I", Cond.methodLink RX8 71 yX8_within, Cond.static yX8_within, Cond.code yX8_within cX8_within 3 (some .boolean), Cond.methodLink RX8 184 yX8_findBest, Cond.instanceMethod yX8_findBest, Cond.selects RX8 yX8_findBest yX8_findBest, Cond.code yX8_findBest cX8_findBest 6 none, Cond.fieldLink RX8 47 "TouchUpModel" "drops" "[I", Cond.methodLink RX8 171 yX8_areDrops, Cond.instanceMethod yX8_areDrops, Cond.selects RX8 yX8_areDrops yX8_areDrops]
def wsX8_best_r2 : List Cond := [Cond.code yX8_areDrops cX8_areDrops 3 (some .boolean), Cond.methodLink RX8 137 yX8_isCoat, Cond.instanceMethod yX8_isCoat, Cond.selects RX8 yX8_isCoat yX8_isCoat, Cond.code yX8_isCoat cX8_isCoat 2 (some .boolean), Cond.fieldLink RX8 124 "TouchUpModel" "coats" "I", Cond.methodLink RX8 175 yX8_layMix, Cond.instanceMethod yX8_layMix, Cond.selects RX8 yX8_layMix yX8_layMix, Cond.code yX8_layMix cX8_layMix 5 none, Cond.fieldLink RX8 168 "TouchUpModel" "mixKind" "I", Cond.fieldLink RX8 38 "TouchUpModel" "kind" "[I", Cond.fieldLink RX8 41 "TouchUpModel" "bands" "[I", Cond.fieldLink RX8 50 "TouchUpModel" "mixBands" "[I", Cond.methodLink RX8 181 yX8_mixUnlike, Cond.instanceMethod yX8_mixUnlike, Cond.selects RX8 yX8_mixUnlike yX8_mixUnlike, Cond.code yX8_mixUnlike cX8_mixUnlike 7 (some .int), Cond.fieldLink RX8 121 "TouchUpModel" "lights" "I", Cond.fieldLink RX8 44 "TouchUpModel" "weights" "[I", Cond.methodLink RX8 140 yX8_comes, Cond.instanceMethod yX8_comes, Cond.selects RX8 yX8_comes yX8_comes, Cond.code yX8_comes cX8_comes 9 (some .int)]
def wsX8_best_r3 : List Cond := [Cond.fieldLink RX8 115 "TouchUpModel" "smoke" "I", Cond.methodLink RX8 154 yX8_lookNow, Cond.instanceMethod yX8_lookNow, Cond.selects RX8 yX8_lookNow yX8_lookNow, Cond.code yX8_lookNow cX8_lookNow 4 (some .int), Cond.fieldLink RX8 22 "TouchUpModel" "coatOf" "[I", Cond.fieldLink RX8 25 "TouchUpModel" "had" "[I", Cond.fieldLink RX8 28 "TouchUpModel" "air" "[I", Cond.methodLink RX8 148 yX8_lookOf, Cond.instanceMethod yX8_lookOf, Cond.selects RX8 yX8_lookOf yX8_lookOf, Cond.code yX8_lookOf cX8_lookOf 8 (some .int), Cond.methodLink RX8 144 yX8_comesOf, Cond.instanceMethod yX8_comesOf, Cond.selects RX8 yX8_comesOf yX8_comesOf, Cond.code yX8_comesOf cX8_comesOf 6 (some .int), Cond.methodLink RX8 158 yX8_size, Cond.static yX8_size, Cond.code yX8_size cX8_size 1 (some .int)]
def wsX8_best : List Cond := .code yX8_best cX8_best 3 (some .int) :: ((wsX8_best_r1 ++ (wsX8_best_r2 ++ wsX8_best_r3)) ++ wsX80)
def wsX8_freshUnlike : List Cond := .code yX8_freshUnlike cX8_freshUnlike 4 (some .int) :: ([.methodLink RX8 148 yX8_lookOf, .instanceMethod yX8_lookOf, .selects RX8 yX8_lookOf yX8_lookOf, .initialized RX8, .code yX8_lookOf cX8_lookOf 8 (some .int), .fieldLink RX8 44 "TouchUpModel" "weights" "[I", .methodLink RX8 144 yX8_comesOf, .instanceMethod yX8_comesOf, .selects RX8 yX8_comesOf yX8_comesOf, .code yX8_comesOf cX8_comesOf 6 (some .int), .fieldLink RX8 38 "TouchUpModel" "kind" "[I", .fieldLink RX8 41 "TouchUpModel" "bands" "[I", .methodLink RX8 140 yX8_comes, .instanceMethod yX8_comes, .selects RX8 yX8_comes yX8_comes, .code yX8_comes cX8_comes 9 (some .int), .fieldLink RX8 115 "TouchUpModel" "smoke" "I", .methodLink RX8 158 yX8_size, .static yX8_size, .code yX8_size cX8_size 1 (some .int)] ++ wsX80)
def wsX8_traitors_r1 : List Cond := [Cond.fieldLink RX8 124 "TouchUpModel" "coats" "I", Cond.fieldLink RX8 118 "TouchUpModel" "line" "I", Cond.methodLink RX8 151 yX8_isLight, Cond.instanceMethod yX8_isLight, Cond.selects RX8 yX8_isLight yX8_isLight, Cond.initialized RX8, Cond.code yX8_isLight cX8_isLight 2 (some .boolean), Cond.fieldLink RX8 121 "TouchUpModel" "lights" "I", Cond.methodLink RX8 188 yX8_freshUnlike, Cond.instanceMethod yX8_freshUnlike, Cond.selects RX8 yX8_freshUnlike yX8_freshUnlike, Cond.code yX8_freshUnlike cX8_freshUnlike 4 (some .int), Cond.methodLink RX8 148 yX8_lookOf, Cond.instanceMethod yX8_lookOf, Cond.selects RX8 yX8_lookOf yX8_lookOf, Cond.code yX8_lookOf cX8_lookOf 8 (some .int), Cond.fieldLink RX8 44 "TouchUpModel" "weights" "[I", Cond.methodLink RX8 144 yX8_comesOf, Cond.instanceMethod yX8_comesOf, Cond.selects RX8 yX8_comesOf yX8_comesOf, Cond.code yX8_comesOf cX8_comesOf 6 (some .int), Cond.fieldLink RX8 38 "TouchUpModel" "kind" "[I", Cond.fieldLink RX8 41 "TouchUpModel" "bands" "[I", Cond.methodLink RX8 140 yX8_comes]
def wsX8_traitors_r2 : List Cond := [Cond.instanceMethod yX8_comes, Cond.selects RX8 yX8_comes yX8_comes, Cond.code yX8_comes cX8_comes 9 (some .int), Cond.fieldLink RX8 115 "TouchUpModel" "smoke" "I", Cond.methodLink RX8 158 yX8_size, Cond.static yX8_size, Cond.code yX8_size cX8_size 1 (some .int)]
def wsX8_traitors : List Cond := .code yX8_traitors cX8_traitors 7 (some .int) :: ((wsX8_traitors_r1 ++ wsX8_traitors_r2) ++ wsX80)
def wsX8_keepAll : List Cond := .code yX8_keepAll cX8_keepAll 2 none :: ([.fieldLink RX8 56 "TouchUpModel" "keptCoat" "[I", .fieldLink RX8 22 "TouchUpModel" "coatOf" "[I", .fieldLink RX8 59 "TouchUpModel" "keptHad" "[I", .fieldLink RX8 25 "TouchUpModel" "had" "[I", .fieldLink RX8 62 "TouchUpModel" "keptAir" "[I", .fieldLink RX8 28 "TouchUpModel" "air" "[I", .methodLink RX8 81 yX8_all, .instanceMethod yX8_all, .selects RX8 yX8_all yX8_all, .initialized RX8, .code yX8_all cX8_all 1 (some .int), .fieldLink RX8 75 "TouchUpModel" "high" "I", .fieldLink RX8 78 "TouchUpModel" "wide" "I"] ++ wsX80)
def wsX8_takeAll : List Cond := .code yX8_takeAll cX8_takeAll 2 none :: ([.fieldLink RX8 22 "TouchUpModel" "coatOf" "[I", .fieldLink RX8 56 "TouchUpModel" "keptCoat" "[I", .fieldLink RX8 25 "TouchUpModel" "had" "[I", .fieldLink RX8 59 "TouchUpModel" "keptHad" "[I", .fieldLink RX8 28 "TouchUpModel" "air" "[I", .fieldLink RX8 62 "TouchUpModel" "keptAir" "[I", .methodLink RX8 81 yX8_all, .instanceMethod yX8_all, .selects RX8 yX8_all yX8_all, .initialized RX8, .code yX8_all cX8_all 1 (some .int), .fieldLink RX8 75 "TouchUpModel" "high" "I", .fieldLink RX8 78 "TouchUpModel" "wide" "I"] ++ wsX80)
def wsX8_seenWith_r1 : List Cond := [Cond.fieldLink RX8 78 "TouchUpModel" "wide" "I", Cond.methodLink RX8 191 yX8_keepAll, Cond.instanceMethod yX8_keepAll, Cond.selects RX8 yX8_keepAll yX8_keepAll, Cond.initialized RX8, Cond.code yX8_keepAll cX8_keepAll 2 none, Cond.fieldLink RX8 56 "TouchUpModel" "keptCoat" "[I", Cond.fieldLink RX8 22 "TouchUpModel" "coatOf" "[I", Cond.fieldLink RX8 59 "TouchUpModel" "keptHad" "[I", Cond.fieldLink RX8 25 "TouchUpModel" "had" "[I", Cond.fieldLink RX8 62 "TouchUpModel" "keptAir" "[I", Cond.fieldLink RX8 28 "TouchUpModel" "air" "[I", Cond.methodLink RX8 81 yX8_all, Cond.instanceMethod yX8_all, Cond.selects RX8 yX8_all yX8_all, Cond.code yX8_all cX8_all 1 (some .int), Cond.fieldLink RX8 75 "TouchUpModel" "high" "I", Cond.methodLink RX8 194 yX8_paint, Cond.instanceMethod yX8_paint, Cond.selects RX8 yX8_paint yX8_paint, Cond.code yX8_paint cX8_paint 4 (some .int), Cond.methodLink RX8 134 yX8_isCell, Cond.instanceMethod yX8_isCell, Cond.selects RX8 yX8_isCell yX8_isCell]
def wsX8_seenWith_r2 : List Cond := [Cond.code yX8_isCell cX8_isCell 2 (some .boolean), Cond.methodLink RX8 137 yX8_isCoat, Cond.instanceMethod yX8_isCoat, Cond.selects RX8 yX8_isCoat yX8_isCoat, Cond.code yX8_isCoat cX8_isCoat 2 (some .boolean), Cond.fieldLink RX8 124 "TouchUpModel" "coats" "I", Cond.methodLink RX8 165 yX8_seenOf, Cond.instanceMethod yX8_seenOf, Cond.selects RX8 yX8_seenOf yX8_seenOf, Cond.code yX8_seenOf cX8_seenOf 6 (some .int), Cond.methodLink RX8 161 yX8_isEdge, Cond.instanceMethod yX8_isEdge, Cond.selects RX8 yX8_isEdge yX8_isEdge, Cond.code yX8_isEdge cX8_isEdge 5 (some .boolean), Cond.fieldLink RX8 121 "TouchUpModel" "lights" "I", Cond.fieldLink RX8 118 "TouchUpModel" "line" "I", Cond.methodLink RX8 154 yX8_lookNow, Cond.instanceMethod yX8_lookNow, Cond.selects RX8 yX8_lookNow yX8_lookNow, Cond.code yX8_lookNow cX8_lookNow 4 (some .int), Cond.methodLink RX8 148 yX8_lookOf, Cond.instanceMethod yX8_lookOf, Cond.selects RX8 yX8_lookOf yX8_lookOf, Cond.code yX8_lookOf cX8_lookOf 8 (some .int)]
def wsX8_seenWith_r3 : List Cond := [Cond.fieldLink RX8 44 "TouchUpModel" "weights" "[I", Cond.methodLink RX8 144 yX8_comesOf, Cond.instanceMethod yX8_comesOf, Cond.selects RX8 yX8_comesOf yX8_comesOf, Cond.code yX8_comesOf cX8_comesOf 6 (some .int), Cond.fieldLink RX8 38 "TouchUpModel" "kind" "[I", Cond.fieldLink RX8 41 "TouchUpModel" "bands" "[I", Cond.methodLink RX8 140 yX8_comes, Cond.instanceMethod yX8_comes, Cond.selects RX8 yX8_comes yX8_comes, Cond.code yX8_comes cX8_comes 9 (some .int), Cond.fieldLink RX8 115 "TouchUpModel" "smoke" "I", Cond.methodLink RX8 158 yX8_size, Cond.static yX8_size, Cond.code yX8_size cX8_size 1 (some .int), Cond.methodLink RX8 198 yX8_takeAll, Cond.instanceMethod yX8_takeAll, Cond.selects RX8 yX8_takeAll yX8_takeAll, Cond.code yX8_takeAll cX8_takeAll 2 none]
def wsX8_seenWith : List Cond := .code yX8_seenWith cX8_seenWith 7 (some .int) :: ((wsX8_seenWith_r1 ++ (wsX8_seenWith_r2 ++ wsX8_seenWith_r3)) ++ wsX80)
def wsX8_offer_r1 : List Cond := [Cond.fieldLink RX8 78 "TouchUpModel" "wide" "I", Cond.fieldLink RX8 201 "TouchUpModel" "patchMany" "I", Cond.fieldLink RX8 207 "TouchUpModel" "patchFirst" "I", Cond.fieldLink RX8 210 "TouchUpModel" "patchLast" "I", Cond.methodLink RX8 204 yX8_seenWith, Cond.instanceMethod yX8_seenWith, Cond.selects RX8 yX8_seenWith yX8_seenWith, Cond.initialized RX8, Cond.code yX8_seenWith cX8_seenWith 7 (some .int), Cond.methodLink RX8 191 yX8_keepAll, Cond.instanceMethod yX8_keepAll, Cond.selects RX8 yX8_keepAll yX8_keepAll, Cond.code yX8_keepAll cX8_keepAll 2 none, Cond.fieldLink RX8 56 "TouchUpModel" "keptCoat" "[I", Cond.fieldLink RX8 22 "TouchUpModel" "coatOf" "[I", Cond.fieldLink RX8 59 "TouchUpModel" "keptHad" "[I", Cond.fieldLink RX8 25 "TouchUpModel" "had" "[I", Cond.fieldLink RX8 62 "TouchUpModel" "keptAir" "[I", Cond.fieldLink RX8 28 "TouchUpModel" "air" "[I", Cond.methodLink RX8 81 yX8_all, Cond.instanceMethod yX8_all, Cond.selects RX8 yX8_all yX8_all, Cond.code yX8_all cX8_all 1 (some .int), Cond.fieldLink RX8 75 "TouchUpModel" "high" "I"]
def wsX8_offer_r2 : List Cond := [Cond.methodLink RX8 194 yX8_paint, Cond.instanceMethod yX8_paint, Cond.selects RX8 yX8_paint yX8_paint, Cond.code yX8_paint cX8_paint 4 (some .int), Cond.methodLink RX8 134 yX8_isCell, Cond.instanceMethod yX8_isCell, Cond.selects RX8 yX8_isCell yX8_isCell, Cond.code yX8_isCell cX8_isCell 2 (some .boolean), Cond.methodLink RX8 137 yX8_isCoat, Cond.instanceMethod yX8_isCoat, Cond.selects RX8 yX8_isCoat yX8_isCoat, Cond.code yX8_isCoat cX8_isCoat 2 (some .boolean), Cond.fieldLink RX8 124 "TouchUpModel" "coats" "I", Cond.methodLink RX8 165 yX8_seenOf, Cond.instanceMethod yX8_seenOf, Cond.selects RX8 yX8_seenOf yX8_seenOf, Cond.code yX8_seenOf cX8_seenOf 6 (some .int), Cond.methodLink RX8 161 yX8_isEdge, Cond.instanceMethod yX8_isEdge, Cond.selects RX8 yX8_isEdge yX8_isEdge, Cond.code yX8_isEdge cX8_isEdge 5 (some .boolean), Cond.fieldLink RX8 121 "TouchUpModel" "lights" "I", Cond.fieldLink RX8 118 "TouchUpModel" "line" "I", Cond.methodLink RX8 154 yX8_lookNow]
def wsX8_offer_r3 : List Cond := [Cond.instanceMethod yX8_lookNow, Cond.selects RX8 yX8_lookNow yX8_lookNow, Cond.code yX8_lookNow cX8_lookNow 4 (some .int), Cond.methodLink RX8 148 yX8_lookOf, Cond.instanceMethod yX8_lookOf, Cond.selects RX8 yX8_lookOf yX8_lookOf, Cond.code yX8_lookOf cX8_lookOf 8 (some .int), Cond.fieldLink RX8 44 "TouchUpModel" "weights" "[I", Cond.methodLink RX8 144 yX8_comesOf, Cond.instanceMethod yX8_comesOf, Cond.selects RX8 yX8_comesOf yX8_comesOf, Cond.code yX8_comesOf cX8_comesOf 6 (some .int), Cond.fieldLink RX8 38 "TouchUpModel" "kind" "[I", Cond.fieldLink RX8 41 "TouchUpModel" "bands" "[I", Cond.methodLink RX8 140 yX8_comes, Cond.instanceMethod yX8_comes, Cond.selects RX8 yX8_comes yX8_comes, Cond.code yX8_comes cX8_comes 9 (some .int), Cond.fieldLink RX8 115 "TouchUpModel" "smoke" "I", Cond.methodLink RX8 158 yX8_size, Cond.static yX8_size, Cond.code yX8_size cX8_size 1 (some .int), Cond.methodLink RX8 198 yX8_takeAll, Cond.instanceMethod yX8_takeAll]
def wsX8_offer_r4 : List Cond := [Cond.selects RX8 yX8_takeAll yX8_takeAll, Cond.code yX8_takeAll cX8_takeAll 2 none]
def wsX8_offer : List Cond := .code yX8_offer cX8_offer 6 none :: ((wsX8_offer_r1 ++ (wsX8_offer_r2 ++ (wsX8_offer_r3 ++ wsX8_offer_r4))) ++ wsX80)
def wsX8_findPatch_r1 : List Cond := [Cond.fieldLink RX8 201 "TouchUpModel" "patchMany" "I", Cond.fieldLink RX8 78 "TouchUpModel" "wide" "I", Cond.methodLink RX8 81 yX8_all, Cond.instanceMethod yX8_all, Cond.selects RX8 yX8_all yX8_all, Cond.initialized RX8, Cond.code yX8_all cX8_all 1 (some .int), Cond.fieldLink RX8 75 "TouchUpModel" "high" "I", Cond.methodLink RX8 213 yX8_offer, Cond.instanceMethod yX8_offer, Cond.selects RX8 yX8_offer yX8_offer, Cond.code yX8_offer cX8_offer 6 none, Cond.fieldLink RX8 207 "TouchUpModel" "patchFirst" "I", Cond.fieldLink RX8 210 "TouchUpModel" "patchLast" "I", Cond.methodLink RX8 204 yX8_seenWith, Cond.instanceMethod yX8_seenWith, Cond.selects RX8 yX8_seenWith yX8_seenWith, Cond.code yX8_seenWith cX8_seenWith 7 (some .int), Cond.methodLink RX8 191 yX8_keepAll, Cond.instanceMethod yX8_keepAll, Cond.selects RX8 yX8_keepAll yX8_keepAll, Cond.code yX8_keepAll cX8_keepAll 2 none, Cond.fieldLink RX8 56 "TouchUpModel" "keptCoat" "[I", Cond.fieldLink RX8 22 "TouchUpModel" "coatOf" "[I"]
def wsX8_findPatch_r2 : List Cond := [Cond.fieldLink RX8 59 "TouchUpModel" "keptHad" "[I", Cond.fieldLink RX8 25 "TouchUpModel" "had" "[I", Cond.fieldLink RX8 62 "TouchUpModel" "keptAir" "[I", Cond.fieldLink RX8 28 "TouchUpModel" "air" "[I", Cond.methodLink RX8 194 yX8_paint, Cond.instanceMethod yX8_paint, Cond.selects RX8 yX8_paint yX8_paint, Cond.code yX8_paint cX8_paint 4 (some .int), Cond.methodLink RX8 134 yX8_isCell, Cond.instanceMethod yX8_isCell, Cond.selects RX8 yX8_isCell yX8_isCell, Cond.code yX8_isCell cX8_isCell 2 (some .boolean), Cond.methodLink RX8 137 yX8_isCoat, Cond.instanceMethod yX8_isCoat, Cond.selects RX8 yX8_isCoat yX8_isCoat, Cond.code yX8_isCoat cX8_isCoat 2 (some .boolean), Cond.fieldLink RX8 124 "TouchUpModel" "coats" "I", Cond.methodLink RX8 165 yX8_seenOf, Cond.instanceMethod yX8_seenOf, Cond.selects RX8 yX8_seenOf yX8_seenOf, Cond.code yX8_seenOf cX8_seenOf 6 (some .int), Cond.methodLink RX8 161 yX8_isEdge, Cond.instanceMethod yX8_isEdge, Cond.selects RX8 yX8_isEdge yX8_isEdge]
def wsX8_findPatch_r3 : List Cond := [Cond.code yX8_isEdge cX8_isEdge 5 (some .boolean), Cond.fieldLink RX8 121 "TouchUpModel" "lights" "I", Cond.fieldLink RX8 118 "TouchUpModel" "line" "I", Cond.methodLink RX8 154 yX8_lookNow, Cond.instanceMethod yX8_lookNow, Cond.selects RX8 yX8_lookNow yX8_lookNow, Cond.code yX8_lookNow cX8_lookNow 4 (some .int), Cond.methodLink RX8 148 yX8_lookOf, Cond.instanceMethod yX8_lookOf, Cond.selects RX8 yX8_lookOf yX8_lookOf, Cond.code yX8_lookOf cX8_lookOf 8 (some .int), Cond.fieldLink RX8 44 "TouchUpModel" "weights" "[I", Cond.methodLink RX8 144 yX8_comesOf, Cond.instanceMethod yX8_comesOf, Cond.selects RX8 yX8_comesOf yX8_comesOf, Cond.code yX8_comesOf cX8_comesOf 6 (some .int), Cond.fieldLink RX8 38 "TouchUpModel" "kind" "[I", Cond.fieldLink RX8 41 "TouchUpModel" "bands" "[I", Cond.methodLink RX8 140 yX8_comes, Cond.instanceMethod yX8_comes, Cond.selects RX8 yX8_comes yX8_comes, Cond.code yX8_comes cX8_comes 9 (some .int), Cond.fieldLink RX8 115 "TouchUpModel" "smoke" "I", Cond.methodLink RX8 158 yX8_size]
def wsX8_findPatch_r4 : List Cond := [Cond.static yX8_size, Cond.code yX8_size cX8_size 1 (some .int), Cond.methodLink RX8 198 yX8_takeAll, Cond.instanceMethod yX8_takeAll, Cond.selects RX8 yX8_takeAll yX8_takeAll, Cond.code yX8_takeAll cX8_takeAll 2 none]
def wsX8_findPatch : List Cond := .code yX8_findPatch cX8_findPatch 7 none :: ((wsX8_findPatch_r1 ++ (wsX8_findPatch_r2 ++ (wsX8_findPatch_r3 ++ wsX8_findPatch_r4))) ++ wsX80)
def wsX8_patch_r1 : List Cond := [Cond.fieldLink RX8 201 "TouchUpModel" "patchMany" "I", Cond.fieldLink RX8 207 "TouchUpModel" "patchFirst" "I", Cond.fieldLink RX8 210 "TouchUpModel" "patchLast" "I", Cond.methodLink RX8 134 yX8_isCell, Cond.instanceMethod yX8_isCell, Cond.selects RX8 yX8_isCell yX8_isCell, Cond.initialized RX8, Cond.code yX8_isCell cX8_isCell 2 (some .boolean), Cond.methodLink RX8 81 yX8_all, Cond.instanceMethod yX8_all, Cond.selects RX8 yX8_all yX8_all, Cond.code yX8_all cX8_all 1 (some .int), Cond.fieldLink RX8 75 "TouchUpModel" "high" "I", Cond.fieldLink RX8 78 "TouchUpModel" "wide" "I", Cond.methodLink RX8 137 yX8_isCoat, Cond.instanceMethod yX8_isCoat, Cond.selects RX8 yX8_isCoat yX8_isCoat, Cond.code yX8_isCoat cX8_isCoat 2 (some .boolean), Cond.fieldLink RX8 124 "TouchUpModel" "coats" "I", Cond.methodLink RX8 71 yX8_within, Cond.static yX8_within, Cond.code yX8_within cX8_within 3 (some .boolean), Cond.methodLink RX8 217 yX8_findPatch, Cond.instanceMethod yX8_findPatch]
def wsX8_patch_r2 : List Cond := [Cond.selects RX8 yX8_findPatch yX8_findPatch, Cond.code yX8_findPatch cX8_findPatch 7 none, Cond.methodLink RX8 213 yX8_offer, Cond.instanceMethod yX8_offer, Cond.selects RX8 yX8_offer yX8_offer, Cond.code yX8_offer cX8_offer 6 none, Cond.methodLink RX8 204 yX8_seenWith, Cond.instanceMethod yX8_seenWith, Cond.selects RX8 yX8_seenWith yX8_seenWith, Cond.code yX8_seenWith cX8_seenWith 7 (some .int), Cond.methodLink RX8 191 yX8_keepAll, Cond.instanceMethod yX8_keepAll, Cond.selects RX8 yX8_keepAll yX8_keepAll, Cond.code yX8_keepAll cX8_keepAll 2 none, Cond.fieldLink RX8 56 "TouchUpModel" "keptCoat" "[I", Cond.fieldLink RX8 22 "TouchUpModel" "coatOf" "[I", Cond.fieldLink RX8 59 "TouchUpModel" "keptHad" "[I", Cond.fieldLink RX8 25 "TouchUpModel" "had" "[I", Cond.fieldLink RX8 62 "TouchUpModel" "keptAir" "[I", Cond.fieldLink RX8 28 "TouchUpModel" "air" "[I", Cond.methodLink RX8 194 yX8_paint, Cond.instanceMethod yX8_paint, Cond.selects RX8 yX8_paint yX8_paint, Cond.code yX8_paint cX8_paint 4 (some .int)]
def wsX8_patch_r3 : List Cond := [Cond.methodLink RX8 165 yX8_seenOf, Cond.instanceMethod yX8_seenOf, Cond.selects RX8 yX8_seenOf yX8_seenOf, Cond.code yX8_seenOf cX8_seenOf 6 (some .int), Cond.methodLink RX8 161 yX8_isEdge, Cond.instanceMethod yX8_isEdge, Cond.selects RX8 yX8_isEdge yX8_isEdge, Cond.code yX8_isEdge cX8_isEdge 5 (some .boolean), Cond.fieldLink RX8 121 "TouchUpModel" "lights" "I", Cond.fieldLink RX8 118 "TouchUpModel" "line" "I", Cond.methodLink RX8 154 yX8_lookNow, Cond.instanceMethod yX8_lookNow, Cond.selects RX8 yX8_lookNow yX8_lookNow, Cond.code yX8_lookNow cX8_lookNow 4 (some .int), Cond.methodLink RX8 148 yX8_lookOf, Cond.instanceMethod yX8_lookOf, Cond.selects RX8 yX8_lookOf yX8_lookOf, Cond.code yX8_lookOf cX8_lookOf 8 (some .int), Cond.fieldLink RX8 44 "TouchUpModel" "weights" "[I", Cond.methodLink RX8 144 yX8_comesOf, Cond.instanceMethod yX8_comesOf, Cond.selects RX8 yX8_comesOf yX8_comesOf, Cond.code yX8_comesOf cX8_comesOf 6 (some .int), Cond.fieldLink RX8 38 "TouchUpModel" "kind" "[I"]
def wsX8_patch_r4 : List Cond := [Cond.fieldLink RX8 41 "TouchUpModel" "bands" "[I", Cond.methodLink RX8 140 yX8_comes, Cond.instanceMethod yX8_comes, Cond.selects RX8 yX8_comes yX8_comes, Cond.code yX8_comes cX8_comes 9 (some .int), Cond.fieldLink RX8 115 "TouchUpModel" "smoke" "I", Cond.methodLink RX8 158 yX8_size, Cond.static yX8_size, Cond.code yX8_size cX8_size 1 (some .int), Cond.methodLink RX8 198 yX8_takeAll, Cond.instanceMethod yX8_takeAll, Cond.selects RX8 yX8_takeAll yX8_takeAll, Cond.code yX8_takeAll cX8_takeAll 2 none]
def wsX8_patch : List Cond := .code yX8_patch cX8_patch 4 (some .int) :: ((wsX8_patch_r1 ++ (wsX8_patch_r2 ++ (wsX8_patch_r3 ++ wsX8_patch_r4))) ++ wsX80)
def wsX8_leave_r1 : List Cond := [Cond.methodLink RX8 134 yX8_isCell, Cond.instanceMethod yX8_isCell, Cond.selects RX8 yX8_isCell yX8_isCell, Cond.initialized RX8, Cond.code yX8_isCell cX8_isCell 2 (some .boolean), Cond.methodLink RX8 81 yX8_all, Cond.instanceMethod yX8_all, Cond.selects RX8 yX8_all yX8_all, Cond.code yX8_all cX8_all 1 (some .int), Cond.fieldLink RX8 75 "TouchUpModel" "high" "I", Cond.fieldLink RX8 78 "TouchUpModel" "wide" "I", Cond.methodLink RX8 137 yX8_isCoat, Cond.instanceMethod yX8_isCoat, Cond.selects RX8 yX8_isCoat yX8_isCoat, Cond.code yX8_isCoat cX8_isCoat 2 (some .boolean), Cond.fieldLink RX8 124 "TouchUpModel" "coats" "I", Cond.methodLink RX8 165 yX8_seenOf, Cond.instanceMethod yX8_seenOf, Cond.selects RX8 yX8_seenOf yX8_seenOf, Cond.code yX8_seenOf cX8_seenOf 6 (some .int), Cond.methodLink RX8 161 yX8_isEdge, Cond.instanceMethod yX8_isEdge, Cond.selects RX8 yX8_isEdge yX8_isEdge, Cond.code yX8_isEdge cX8_isEdge 5 (some .boolean)]
def wsX8_leave_r2 : List Cond := [Cond.fieldLink RX8 121 "TouchUpModel" "lights" "I", Cond.fieldLink RX8 118 "TouchUpModel" "line" "I", Cond.methodLink RX8 154 yX8_lookNow, Cond.instanceMethod yX8_lookNow, Cond.selects RX8 yX8_lookNow yX8_lookNow, Cond.code yX8_lookNow cX8_lookNow 4 (some .int), Cond.fieldLink RX8 22 "TouchUpModel" "coatOf" "[I", Cond.fieldLink RX8 25 "TouchUpModel" "had" "[I", Cond.fieldLink RX8 28 "TouchUpModel" "air" "[I", Cond.methodLink RX8 148 yX8_lookOf, Cond.instanceMethod yX8_lookOf, Cond.selects RX8 yX8_lookOf yX8_lookOf, Cond.code yX8_lookOf cX8_lookOf 8 (some .int), Cond.fieldLink RX8 44 "TouchUpModel" "weights" "[I", Cond.methodLink RX8 144 yX8_comesOf, Cond.instanceMethod yX8_comesOf, Cond.selects RX8 yX8_comesOf yX8_comesOf, Cond.code yX8_comesOf cX8_comesOf 6 (some .int), Cond.fieldLink RX8 38 "TouchUpModel" "kind" "[I", Cond.fieldLink RX8 41 "TouchUpModel" "bands" "[I", Cond.methodLink RX8 140 yX8_comes, Cond.instanceMethod yX8_comes, Cond.selects RX8 yX8_comes yX8_comes, Cond.code yX8_comes cX8_comes 9 (some .int)]
def wsX8_leave_r3 : List Cond := [Cond.fieldLink RX8 115 "TouchUpModel" "smoke" "I", Cond.methodLink RX8 158 yX8_size, Cond.static yX8_size, Cond.code yX8_size cX8_size 1 (some .int), Cond.methodLink RX8 204 yX8_seenWith, Cond.instanceMethod yX8_seenWith, Cond.selects RX8 yX8_seenWith yX8_seenWith, Cond.code yX8_seenWith cX8_seenWith 7 (some .int), Cond.methodLink RX8 191 yX8_keepAll, Cond.instanceMethod yX8_keepAll, Cond.selects RX8 yX8_keepAll yX8_keepAll, Cond.code yX8_keepAll cX8_keepAll 2 none, Cond.fieldLink RX8 56 "TouchUpModel" "keptCoat" "[I", Cond.fieldLink RX8 59 "TouchUpModel" "keptHad" "[I", Cond.fieldLink RX8 62 "TouchUpModel" "keptAir" "[I", Cond.methodLink RX8 194 yX8_paint, Cond.instanceMethod yX8_paint, Cond.selects RX8 yX8_paint yX8_paint, Cond.code yX8_paint cX8_paint 4 (some .int), Cond.methodLink RX8 198 yX8_takeAll, Cond.instanceMethod yX8_takeAll, Cond.selects RX8 yX8_takeAll yX8_takeAll, Cond.code yX8_takeAll cX8_takeAll 2 none]
def wsX8_leave : List Cond := .code yX8_leave cX8_leave 3 (some .int) :: ((wsX8_leave_r1 ++ (wsX8_leave_r2 ++ wsX8_leave_r3)) ++ wsX80)
def wsX8_on_r1 : List Cond := [Cond.fieldLink RX8 31 "TouchUpModel" "isHung" "[Z", Cond.fieldLink RX8 22 "TouchUpModel" "coatOf" "[I", Cond.fieldLink RX8 25 "TouchUpModel" "had" "[I", Cond.fieldLink RX8 19 "TouchUpModel" "sun" "[I", Cond.fieldLink RX8 28 "TouchUpModel" "air" "[I", Cond.methodLink RX8 134 yX8_isCell, Cond.instanceMethod yX8_isCell, Cond.selects RX8 yX8_isCell yX8_isCell, Cond.initialized RX8, Cond.code yX8_isCell cX8_isCell 2 (some .boolean), Cond.methodLink RX8 81 yX8_all, Cond.instanceMethod yX8_all, Cond.selects RX8 yX8_all yX8_all, Cond.code yX8_all cX8_all 1 (some .int), Cond.fieldLink RX8 75 "TouchUpModel" "high" "I", Cond.fieldLink RX8 78 "TouchUpModel" "wide" "I", Cond.methodLink RX8 151 yX8_isLight, Cond.instanceMethod yX8_isLight, Cond.selects RX8 yX8_isLight yX8_isLight, Cond.code yX8_isLight cX8_isLight 2 (some .boolean), Cond.fieldLink RX8 121 "TouchUpModel" "lights" "I", Cond.methodLink RX8 71 yX8_within, Cond.static yX8_within, Cond.code yX8_within cX8_within 3 (some .boolean)]
def wsX8_on_r2 : List Cond := [Cond.methodLink RX8 148 yX8_lookOf, Cond.instanceMethod yX8_lookOf, Cond.selects RX8 yX8_lookOf yX8_lookOf, Cond.code yX8_lookOf cX8_lookOf 8 (some .int), Cond.fieldLink RX8 44 "TouchUpModel" "weights" "[I", Cond.methodLink RX8 144 yX8_comesOf, Cond.instanceMethod yX8_comesOf, Cond.selects RX8 yX8_comesOf yX8_comesOf, Cond.code yX8_comesOf cX8_comesOf 6 (some .int), Cond.fieldLink RX8 38 "TouchUpModel" "kind" "[I", Cond.fieldLink RX8 41 "TouchUpModel" "bands" "[I", Cond.methodLink RX8 140 yX8_comes, Cond.instanceMethod yX8_comes, Cond.selects RX8 yX8_comes yX8_comes, Cond.code yX8_comes cX8_comes 9 (some .int), Cond.fieldLink RX8 115 "TouchUpModel" "smoke" "I"]
def wsX8_on : List Cond := .code yX8_on cX8_on 5 (some .int) :: ((wsX8_on_r1 ++ wsX8_on_r2) ++ wsX80)
def wsX8_hide_r1 : List Cond := [Cond.methodLink RX8 71 yX8_within, Cond.static yX8_within, Cond.initialized RX8, Cond.code yX8_within cX8_within 3 (some .boolean), Cond.methodLink RX8 81 yX8_all, Cond.instanceMethod yX8_all, Cond.selects RX8 yX8_all yX8_all, Cond.code yX8_all cX8_all 1 (some .int), Cond.fieldLink RX8 75 "TouchUpModel" "high" "I", Cond.fieldLink RX8 78 "TouchUpModel" "wide" "I", Cond.methodLink RX8 165 yX8_seenOf, Cond.instanceMethod yX8_seenOf, Cond.selects RX8 yX8_seenOf yX8_seenOf, Cond.code yX8_seenOf cX8_seenOf 6 (some .int), Cond.methodLink RX8 161 yX8_isEdge, Cond.instanceMethod yX8_isEdge, Cond.selects RX8 yX8_isEdge yX8_isEdge, Cond.code yX8_isEdge cX8_isEdge 5 (some .boolean), Cond.fieldLink RX8 121 "TouchUpModel" "lights" "I", Cond.fieldLink RX8 118 "TouchUpModel" "line" "I", Cond.methodLink RX8 154 yX8_lookNow, Cond.instanceMethod yX8_lookNow, Cond.selects RX8 yX8_lookNow yX8_lookNow, Cond.code yX8_lookNow cX8_lookNow 4 (some .int)]
def wsX8_hide_r2 : List Cond := [Cond.fieldLink RX8 22 "TouchUpModel" "coatOf" "[I", Cond.fieldLink RX8 25 "TouchUpModel" "had" "[I", Cond.fieldLink RX8 28 "TouchUpModel" "air" "[I", Cond.methodLink RX8 148 yX8_lookOf, Cond.instanceMethod yX8_lookOf, Cond.selects RX8 yX8_lookOf yX8_lookOf, Cond.code yX8_lookOf cX8_lookOf 8 (some .int), Cond.fieldLink RX8 44 "TouchUpModel" "weights" "[I", Cond.methodLink RX8 144 yX8_comesOf, Cond.instanceMethod yX8_comesOf, Cond.selects RX8 yX8_comesOf yX8_comesOf, Cond.code yX8_comesOf cX8_comesOf 6 (some .int), Cond.fieldLink RX8 38 "TouchUpModel" "kind" "[I", Cond.fieldLink RX8 41 "TouchUpModel" "bands" "[I", Cond.methodLink RX8 140 yX8_comes, Cond.instanceMethod yX8_comes, Cond.selects RX8 yX8_comes yX8_comes, Cond.code yX8_comes cX8_comes 9 (some .int), Cond.fieldLink RX8 115 "TouchUpModel" "smoke" "I", Cond.methodLink RX8 158 yX8_size, Cond.static yX8_size, Cond.code yX8_size cX8_size 1 (some .int)]
def wsX8_hide : List Cond := .code yX8_hide cX8_hide 6 (some .int) :: ((wsX8_hide_r1 ++ wsX8_hide_r2) ++ wsX80)
def wsX8_isSo : List Cond := .code yX8_isSo cX8_isSo 6 (some .boolean) :: ([.fieldLink RX8 16 "TouchUpModel" "cells" "[I", .methodLink RX8 144 yX8_comesOf, .instanceMethod yX8_comesOf, .selects RX8 yX8_comesOf yX8_comesOf, .initialized RX8, .code yX8_comesOf cX8_comesOf 6 (some .int), .fieldLink RX8 38 "TouchUpModel" "kind" "[I", .fieldLink RX8 41 "TouchUpModel" "bands" "[I", .methodLink RX8 140 yX8_comes, .instanceMethod yX8_comes, .selects RX8 yX8_comes yX8_comes, .code yX8_comes cX8_comes 9 (some .int), .fieldLink RX8 115 "TouchUpModel" "smoke" "I"] ++ wsX80)
def wsX8_hung_r1 : List Cond := [Cond.fieldLink RX8 65 "TouchUpModel" "fault" "I", Cond.fieldLink RX8 112 "TouchUpModel" "year" "I", Cond.methodLink RX8 137 yX8_isCoat, Cond.instanceMethod yX8_isCoat, Cond.selects RX8 yX8_isCoat yX8_isCoat, Cond.initialized RX8, Cond.code yX8_isCoat cX8_isCoat 2 (some .boolean), Cond.fieldLink RX8 124 "TouchUpModel" "coats" "I", Cond.methodLink RX8 88 yX8_isSheet, Cond.static yX8_isSheet, Cond.code yX8_isSheet cX8_isSheet 1 (some .boolean), Cond.methodLink RX8 71 yX8_within, Cond.static yX8_within, Cond.code yX8_within cX8_within 3 (some .boolean), Cond.methodLink RX8 92 yX8_isSort, Cond.static yX8_isSort, Cond.code yX8_isSort cX8_isSort 1 (some .boolean), Cond.methodLink RX8 95 yX8_against, Cond.instanceMethod yX8_against, Cond.selects RX8 yX8_against yX8_against, Cond.code yX8_against cX8_against 5 (some .int), Cond.fieldLink RX8 9 "TouchUpModel" "sorts" "[I", Cond.fieldLink RX8 13 "TouchUpModel" "sheetLong" "[I", Cond.methodLink RX8 99 yX8_fails]
def wsX8_hung_r2 : List Cond := [Cond.instanceMethod yX8_fails, Cond.selects RX8 yX8_fails yX8_fails, Cond.code yX8_fails cX8_fails 2 (some .int), Cond.methodLink RX8 221 yX8_isSo, Cond.instanceMethod yX8_isSo, Cond.selects RX8 yX8_isSo yX8_isSo, Cond.code yX8_isSo cX8_isSo 6 (some .boolean), Cond.fieldLink RX8 16 "TouchUpModel" "cells" "[I", Cond.methodLink RX8 144 yX8_comesOf, Cond.instanceMethod yX8_comesOf, Cond.selects RX8 yX8_comesOf yX8_comesOf, Cond.code yX8_comesOf cX8_comesOf 6 (some .int), Cond.fieldLink RX8 38 "TouchUpModel" "kind" "[I", Cond.fieldLink RX8 41 "TouchUpModel" "bands" "[I", Cond.methodLink RX8 140 yX8_comes, Cond.instanceMethod yX8_comes, Cond.selects RX8 yX8_comes yX8_comes, Cond.code yX8_comes cX8_comes 9 (some .int), Cond.fieldLink RX8 115 "TouchUpModel" "smoke" "I"]
def wsX8_hung : List Cond := .code yX8_hung cX8_hung 12 (some .int) :: ((wsX8_hung_r1 ++ wsX8_hung_r2) ++ wsX80)
def wsX8_old_r1 : List Cond := [Cond.fieldLink RX8 65 "TouchUpModel" "fault" "I", Cond.constantLong RX8 69 (-9223372036854775808), Cond.methodLink RX8 137 yX8_isCoat, Cond.instanceMethod yX8_isCoat, Cond.selects RX8 yX8_isCoat yX8_isCoat, Cond.initialized RX8, Cond.code yX8_isCoat cX8_isCoat 2 (some .boolean), Cond.fieldLink RX8 124 "TouchUpModel" "coats" "I", Cond.methodLink RX8 88 yX8_isSheet, Cond.static yX8_isSheet, Cond.code yX8_isSheet cX8_isSheet 1 (some .boolean), Cond.methodLink RX8 71 yX8_within, Cond.static yX8_within, Cond.code yX8_within cX8_within 3 (some .boolean), Cond.methodLink RX8 92 yX8_isSort, Cond.static yX8_isSort, Cond.code yX8_isSort cX8_isSort 1 (some .boolean), Cond.methodLink RX8 95 yX8_against, Cond.instanceMethod yX8_against, Cond.selects RX8 yX8_against yX8_against, Cond.code yX8_against cX8_against 5 (some .int), Cond.fieldLink RX8 9 "TouchUpModel" "sorts" "[I", Cond.fieldLink RX8 13 "TouchUpModel" "sheetLong" "[I", Cond.methodLink RX8 225 yX8_lost]
def wsX8_old_r2 : List Cond := [Cond.instanceMethod yX8_lost, Cond.selects RX8 yX8_lost yX8_lost, Cond.code yX8_lost cX8_lost 2 (some .long), Cond.methodLink RX8 221 yX8_isSo, Cond.instanceMethod yX8_isSo, Cond.selects RX8 yX8_isSo yX8_isSo, Cond.code yX8_isSo cX8_isSo 6 (some .boolean), Cond.fieldLink RX8 16 "TouchUpModel" "cells" "[I", Cond.methodLink RX8 144 yX8_comesOf, Cond.instanceMethod yX8_comesOf, Cond.selects RX8 yX8_comesOf yX8_comesOf, Cond.code yX8_comesOf cX8_comesOf 6 (some .int), Cond.fieldLink RX8 38 "TouchUpModel" "kind" "[I", Cond.fieldLink RX8 41 "TouchUpModel" "bands" "[I", Cond.methodLink RX8 140 yX8_comes, Cond.instanceMethod yX8_comes, Cond.selects RX8 yX8_comes yX8_comes, Cond.code yX8_comes cX8_comes 9 (some .int), Cond.fieldLink RX8 115 "TouchUpModel" "smoke" "I"]
def wsX8_old : List Cond := .code yX8_old cX8_old 10 (some .long) :: ((wsX8_old_r1 ++ wsX8_old_r2) ++ wsX80)
def wsX8_sheet : List Cond := .code yX8_sheet cX8_sheet 5 (some .int) :: ([.fieldLink RX8 65 "TouchUpModel" "fault" "I", .fieldLink RX8 9 "TouchUpModel" "sorts" "[I", .fieldLink RX8 13 "TouchUpModel" "sheetLong" "[I", .fieldLink RX8 16 "TouchUpModel" "cells" "[I", .methodLink RX8 88 yX8_isSheet, .static yX8_isSheet, .initialized RX8, .code yX8_isSheet cX8_isSheet 1 (some .boolean), .methodLink RX8 71 yX8_within, .static yX8_within, .code yX8_within cX8_within 3 (some .boolean), .methodLink RX8 92 yX8_isSort, .static yX8_isSort, .code yX8_isSort cX8_isSort 1 (some .boolean), .methodLink RX8 99 yX8_fails, .instanceMethod yX8_fails, .selects RX8 yX8_fails yX8_fails, .code yX8_fails cX8_fails 2 (some .int)] ++ wsX80)
def wsX8_lose : List Cond := .code yX8_lose cX8_lose 3 (some .int) :: ([.fieldLink RX8 9 "TouchUpModel" "sorts" "[I", .methodLink RX8 88 yX8_isSheet, .static yX8_isSheet, .initialized RX8, .code yX8_isSheet cX8_isSheet 1 (some .boolean), .methodLink RX8 71 yX8_within, .static yX8_within, .code yX8_within cX8_within 3 (some .boolean)] ++ wsX80)
def wsX8_put : List Cond := .code yX8_put cX8_put 4 (some .int) :: ([.fieldLink RX8 65 "TouchUpModel" "fault" "I", .fieldLink RX8 9 "TouchUpModel" "sorts" "[I", .fieldLink RX8 13 "TouchUpModel" "sheetLong" "[I", .fieldLink RX8 16 "TouchUpModel" "cells" "[I", .methodLink RX8 88 yX8_isSheet, .static yX8_isSheet, .initialized RX8, .code yX8_isSheet cX8_isSheet 1 (some .boolean), .methodLink RX8 71 yX8_within, .static yX8_within, .code yX8_within cX8_within 3 (some .boolean), .methodLink RX8 99 yX8_fails, .instanceMethod yX8_fails, .selects RX8 yX8_fails yX8_fails, .code yX8_fails cX8_fails 2 (some .int)] ++ wsX80)
def wsX8_cell : List Cond := .code yX8_cell cX8_cell 4 (some .long) :: ([.fieldLink RX8 65 "TouchUpModel" "fault" "I", .constantLong RX8 69 (-9223372036854775808), .fieldLink RX8 9 "TouchUpModel" "sorts" "[I", .fieldLink RX8 13 "TouchUpModel" "sheetLong" "[I", .fieldLink RX8 16 "TouchUpModel" "cells" "[I", .methodLink RX8 88 yX8_isSheet, .static yX8_isSheet, .initialized RX8, .code yX8_isSheet cX8_isSheet 1 (some .boolean), .methodLink RX8 71 yX8_within, .static yX8_within, .code yX8_within cX8_within 3 (some .boolean), .methodLink RX8 92 yX8_isSort, .static yX8_isSort, .code yX8_isSort cX8_isSort 1 (some .boolean), .methodLink RX8 225 yX8_lost, .instanceMethod yX8_lost, .selects RX8 yX8_lost yX8_lost, .code yX8_lost cX8_lost 2 (some .long)] ++ wsX80)
def wsX8_copy : List Cond := .code yX8_copy cX8_copy 10 (some .int) :: ([.fieldLink RX8 65 "TouchUpModel" "fault" "I", .fieldLink RX8 9 "TouchUpModel" "sorts" "[I", .fieldLink RX8 13 "TouchUpModel" "sheetLong" "[I", .fieldLink RX8 16 "TouchUpModel" "cells" "[I", .methodLink RX8 88 yX8_isSheet, .static yX8_isSheet, .initialized RX8, .code yX8_isSheet cX8_isSheet 1 (some .boolean), .methodLink RX8 71 yX8_within, .static yX8_within, .code yX8_within cX8_within 3 (some .boolean), .methodLink RX8 99 yX8_fails, .instanceMethod yX8_fails, .selects RX8 yX8_fails yX8_fails, .code yX8_fails cX8_fails 2 (some .int)] ++ wsX80)
def wsX8_begins : List Cond := .code yX8_begins cX8_begins 2 none :: ([.fieldLink RX8 229 "TouchUpModel" "trace" "I"] ++ wsX80)
def wsX8_tell : List Cond := .code yX8_tell cX8_tell 3 (some .int) :: ([.fieldLink RX8 41 "TouchUpModel" "bands" "[I", .fieldLink RX8 38 "TouchUpModel" "kind" "[I", .methodLink RX8 137 yX8_isCoat, .instanceMethod yX8_isCoat, .selects RX8 yX8_isCoat yX8_isCoat, .initialized RX8, .code yX8_isCoat cX8_isCoat 2 (some .boolean), .fieldLink RX8 124 "TouchUpModel" "coats" "I", .methodLink RX8 232 yX8_begins, .instanceMethod yX8_begins, .selects RX8 yX8_begins yX8_begins, .code yX8_begins cX8_begins 2 none, .fieldLink RX8 229 "TouchUpModel" "trace" "I"] ++ wsX80)
def wsX8_name : List Cond := .code yX8_name cX8_name 2 (some .int) :: ([.fieldLink RX8 38 "TouchUpModel" "kind" "[I", .methodLink RX8 137 yX8_isCoat, .instanceMethod yX8_isCoat, .selects RX8 yX8_isCoat yX8_isCoat, .initialized RX8, .code yX8_isCoat cX8_isCoat 2 (some .boolean), .fieldLink RX8 124 "TouchUpModel" "coats" "I", .methodLink RX8 232 yX8_begins, .instanceMethod yX8_begins, .selects RX8 yX8_begins yX8_begins, .code yX8_begins cX8_begins 2 none, .fieldLink RX8 229 "TouchUpModel" "trace" "I"] ++ wsX80)
def wsX8_as : List Cond := .code yX8_as cX8_as 3 (some .int) :: ([.fieldLink RX8 65 "TouchUpModel" "fault" "I", .fieldLink RX8 38 "TouchUpModel" "kind" "[I", .methodLink RX8 137 yX8_isCoat, .instanceMethod yX8_isCoat, .selects RX8 yX8_isCoat yX8_isCoat, .initialized RX8, .code yX8_isCoat cX8_isCoat 2 (some .boolean), .fieldLink RX8 124 "TouchUpModel" "coats" "I", .methodLink RX8 71 yX8_within, .static yX8_within, .code yX8_within cX8_within 3 (some .boolean), .methodLink RX8 99 yX8_fails, .instanceMethod yX8_fails, .selects RX8 yX8_fails yX8_fails, .code yX8_fails cX8_fails 2 (some .int)] ++ wsX80)
def wsX8_trace : List Cond := .code yX8_trace cX8_trace 1 (some .int) :: ([.fieldLink RX8 229 "TouchUpModel" "trace" "I"] ++ wsX80)
def wsX8_fault : List Cond := .code yX8_fault cX8_fault 1 (some .int) :: ([.fieldLink RX8 65 "TouchUpModel" "fault" "I"] ++ wsX80)
def wsX8_many : List Cond := .code yX8_many cX8_many 2 (some .int) :: ([.fieldLink RX8 78 "TouchUpModel" "wide" "I", .fieldLink RX8 124 "TouchUpModel" "coats" "I", .fieldLink RX8 121 "TouchUpModel" "lights" "I", .fieldLink RX8 112 "TouchUpModel" "year" "I", .fieldLink RX8 115 "TouchUpModel" "smoke" "I", .fieldLink RX8 118 "TouchUpModel" "line" "I", .methodLink RX8 81 yX8_all, .instanceMethod yX8_all, .selects RX8 yX8_all yX8_all, .initialized RX8, .code yX8_all cX8_all 1 (some .int), .fieldLink RX8 75 "TouchUpModel" "high" "I"] ++ wsX80)
def wsJ9_abs_0f7a4 : List Cond := .code yJ9_abs_0f7a4 cJ9_abs_0f7a4 1 (some .int) :: ([])
def wsJ9_max_7cf53 : List Cond := .code yJ9_max_7cf53 cJ9_max_7cf53 2 (some .int) :: ([])
def wsL_law_r1 : List Cond := [Cond.classLink RL 7 RX7, Cond.instantiable RX7 7, Cond.initialized RX7, Cond.classLink RL 10 RX8, Cond.instantiable RX8 35, Cond.initialized RX8, Cond.methodLink RL 9 yX7_init, Cond.instanceMethod yX7_init, Cond.code yX7_init cX7_init 2 none, Cond.methodLink RX7 5 objectInit, Cond.instanceMethod objectInit, Cond.code objectInit ⟨#[0xb1]⟩ 1 none, Cond.classLink RX7 11 RX5, Cond.fieldLink RX7 13 "TouchUp" "sheets" "[LTouchUp$Sheet;", Cond.classLink RX7 17 RX6, Cond.instantiable RX6 11, Cond.initialized RX6, Cond.fieldLink RX7 20 "TouchUp" "wall" "LTouchUp$Wall;", Cond.classLink RX7 24 RX2, Cond.instantiable RX2 3, Cond.initialized RX2, Cond.fieldLink RX7 29 "TouchUp" "edges" "LTouchUp$Edges;", Cond.classLink RX7 33 RX3, Cond.instantiable RX3 7]
def wsL_law_r2 : List Cond := [Cond.initialized RX3, Cond.fieldLink RX7 36 "TouchUp" "mixer" "LTouchUp$Mixer;", Cond.classLink RX7 40 RX4, Cond.instantiable RX4 5, Cond.initialized RX4, Cond.fieldLink RX7 45 "TouchUp" "patch" "LTouchUp$Patch;", Cond.instantiable RX5 4, Cond.initialized RX5, Cond.methodLink RX7 19 yX6_init, Cond.instanceMethod yX6_init, Cond.code yX6_init cX6_init 2 none, Cond.methodLink RX6 3 objectInit, Cond.classLink RX6 9 RX0, Cond.fieldLink RX6 11 "TouchUp$Wall" "cells" "[LTouchUp$Cell;", Cond.classLink RX6 17 RX1, Cond.fieldLink RX6 19 "TouchUp$Wall" "coats" "[LTouchUp$Coat;", Cond.arrayClass .int, Cond.fieldLink RX6 23 "TouchUp$Wall" "weights" "[I", Cond.instantiable RX0 5, Cond.initialized RX0, Cond.instantiable RX1 2, Cond.initialized RX1, Cond.instanceMethod yX0_init, Cond.code yX0_init cX0_init 1 none]
def wsL_law_r3 : List Cond := [Cond.methodLink RX0 1 objectInit, Cond.instanceMethod yX1_init, Cond.code yX1_init cX1_init 1 none, Cond.methodLink RX1 3 objectInit, Cond.fieldLink RX1 9 "TouchUp$Coat" "bands" "[I", Cond.methodLink RX7 26 yX2_init, Cond.instanceMethod yX2_init, Cond.code yX2_init cX2_init 2 none, Cond.methodLink RX2 3 objectInit, Cond.fieldLink RX2 9 "TouchUp$Edges" "looks" "[I", Cond.fieldLink RX2 15 "TouchUp$Edges" "shows" "[I", Cond.fieldLink RX2 18 "TouchUp$Edges" "wall" "LTouchUp$Wall;", Cond.methodLink RX7 35 yX3_init, Cond.instanceMethod yX3_init, Cond.code yX3_init cX3_init 2 none, Cond.methodLink RX3 3 objectInit, Cond.fieldLink RX3 9 "TouchUp$Mixer" "drops" "[I", Cond.classLink RX3 15 RX1, Cond.fieldLink RX3 18 "TouchUp$Mixer" "mixed" "LTouchUp$Coat;", Cond.fieldLink RX3 22 "TouchUp$Mixer" "now" "[I", Cond.fieldLink RX3 25 "TouchUp$Mixer" "bestDrops" "[I", Cond.fieldLink RX3 28 "TouchUp$Mixer" "wall" "LTouchUp$Wall;", Cond.methodLink RX7 42 yX4_init, Cond.instanceMethod yX4_init]
def wsL_law_r4 : List Cond := [Cond.code yX4_init cX4_init 3 none, Cond.methodLink RX4 1 objectInit, Cond.fieldLink RX4 7 "TouchUp$Patch" "wall" "LTouchUp$Wall;", Cond.fieldLink RX4 13 "TouchUp$Patch" "edges" "LTouchUp$Edges;", Cond.instanceMethod yX5_init, Cond.code yX5_init cX5_init 1 none, Cond.methodLink RX5 3 objectInit, Cond.fieldLink RX5 9 "TouchUp$Sheet" "row" "[I", Cond.methodLink RL 12 yX8_init, Cond.instanceMethod yX8_init, Cond.code yX8_init cX8_init 1 none, Cond.methodLink RX8 1 objectInit, Cond.fieldLink RX8 9 "TouchUpModel" "sorts" "[I", Cond.fieldLink RX8 13 "TouchUpModel" "sheetLong" "[I", Cond.fieldLink RX8 16 "TouchUpModel" "cells" "[I", Cond.fieldLink RX8 19 "TouchUpModel" "sun" "[I", Cond.fieldLink RX8 22 "TouchUpModel" "coatOf" "[I", Cond.fieldLink RX8 25 "TouchUpModel" "had" "[I", Cond.fieldLink RX8 28 "TouchUpModel" "air" "[I", Cond.arrayClass .boolean, Cond.fieldLink RX8 31 "TouchUpModel" "isHung" "[Z", Cond.fieldLink RX8 35 "TouchUpModel" "readSun" "[I", Cond.fieldLink RX8 38 "TouchUpModel" "kind" "[I", Cond.fieldLink RX8 41 "TouchUpModel" "bands" "[I"]
def wsL_law_r5 : List Cond := [Cond.fieldLink RX8 44 "TouchUpModel" "weights" "[I", Cond.fieldLink RX8 47 "TouchUpModel" "drops" "[I", Cond.fieldLink RX8 50 "TouchUpModel" "mixBands" "[I", Cond.fieldLink RX8 53 "TouchUpModel" "bestDrops" "[I", Cond.fieldLink RX8 56 "TouchUpModel" "keptCoat" "[I", Cond.fieldLink RX8 59 "TouchUpModel" "keptHad" "[I", Cond.fieldLink RX8 62 "TouchUpModel" "keptAir" "[I", Cond.methodLink RL 13 yX7_wall, Cond.instanceMethod yX7_wall, Cond.selects RX7 yX7_wall yX7_wall, Cond.code yX7_wall cX7_wall 8 (some .int), Cond.fieldLink RX7 50 "TouchUp" "latestFault" "I", Cond.fieldLink RX7 80 "TouchUp$Wall" "count" "I", Cond.methodLink RX7 54 yX7_isSheet, Cond.static yX7_isSheet, Cond.code yX7_isSheet cX7_isSheet 1 (some .boolean), Cond.methodLink RX7 108 yX7_isWithin, Cond.static yX7_isWithin, Cond.code yX7_isWithin cX7_isWithin 3 (some .boolean), Cond.methodLink RX7 58 yX7_isSort, Cond.static yX7_isSort, Cond.code yX7_isSort cX7_isSort 1 (some .boolean), Cond.methodLink RX7 61 yX5_faultAs, Cond.instanceMethod yX5_faultAs]
def wsL_law_r6 : List Cond := [Cond.selects RX5 yX5_faultAs yX5_faultAs, Cond.code yX5_faultAs cX5_faultAs 2 (some .int), Cond.fieldLink RX5 15 "TouchUp$Sheet" "has" "Z", Cond.fieldLink RX5 19 "TouchUp$Sheet" "sort" "I", Cond.methodLink RX7 65 yX5_reaches, Cond.instanceMethod yX5_reaches, Cond.selects RX5 yX5_reaches yX5_reaches, Cond.code yX5_reaches cX5_reaches 3 (some .boolean), Cond.fieldLink RX5 23 "TouchUp$Sheet" "length" "I", Cond.methodLink RX7 69 yX7_failed, Cond.instanceMethod yX7_failed, Cond.selects RX7 yX7_failed yX7_failed, Cond.code yX7_failed cX7_failed 2 (some .int), Cond.methodLink RX7 72 yX5_firstWrongCode, Cond.instanceMethod yX5_firstWrongCode, Cond.selects RX5 yX5_firstWrongCode yX5_firstWrongCode, Cond.code yX5_firstWrongCode cX5_firstWrongCode 3 (some .int), Cond.methodLink RX5 44 yX5_firstWrongInRows, Cond.instanceMethod yX5_firstWrongInRows, Cond.selects RX5 yX5_firstWrongInRows yX5_firstWrongInRows, Cond.code yX5_firstWrongInRows cX5_firstWrongInRows 8 (some .int), Cond.methodLink RX5 48 yX5_fits, Cond.static yX5_fits, Cond.code yX5_fits cX5_fits 2 (some .boolean)]
def wsL_law_r7 : List Cond := [Cond.methodLink RX7 76 yX6_makeAnew, Cond.instanceMethod yX6_makeAnew, Cond.selects RX6 yX6_makeAnew yX6_makeAnew, Cond.code yX6_makeAnew cX6_makeAnew 6 none, Cond.fieldLink RX6 29 "TouchUp$Sheet" "row" "[I", Cond.fieldLink RX6 34 "TouchUp$Wall" "high" "I", Cond.fieldLink RX6 38 "TouchUp$Wall" "wide" "I", Cond.fieldLink RX6 41 "TouchUp$Wall" "count" "I", Cond.fieldLink RX6 48 "TouchUp$Wall" "year" "I", Cond.fieldLink RX6 51 "TouchUp$Wall" "smoke" "I", Cond.fieldLink RX6 54 "TouchUp$Wall" "line" "I", Cond.fieldLink RX6 57 "TouchUp$Wall" "lightCount" "I", Cond.fieldLink RX6 60 "TouchUp$Wall" "coatCount" "I", Cond.methodLink RX6 44 yX0_begin, Cond.instanceMethod yX0_begin, Cond.selects RX0 yX0_begin yX0_begin, Cond.code yX0_begin cX0_begin 2 none, Cond.fieldLink RX0 19 "TouchUp$Cell" "sun" "I", Cond.fieldLink RX0 22 "TouchUp$Cell" "hidden" "Z", Cond.methodLink RX0 26 yX0_takeFresh, Cond.instanceMethod yX0_takeFresh, Cond.selects RX0 yX0_takeFresh yX0_takeFresh, Cond.code yX0_takeFresh cX0_takeFresh 2 none, Cond.fieldLink RX0 7 "TouchUp$Cell" "coat" "I"]
def wsL_law_r8 : List Cond := [Cond.fieldLink RX0 13 "TouchUp$Cell" "sunHad" "I", Cond.fieldLink RX0 16 "TouchUp$Cell" "air" "I", Cond.methodLink RX6 63 yX6_addCoat, Cond.instanceMethod yX6_addCoat, Cond.selects RX6 yX6_addCoat yX6_addCoat, Cond.code yX6_addCoat cX6_addCoat 6 (some .int), Cond.fieldLink RX6 70 "TouchUp$Coat" "kind" "I", Cond.fieldLink RX6 73 "TouchUp$Coat" "bands" "[I", Cond.methodLink RL 17 yX8_wall, Cond.instanceMethod yX8_wall, Cond.selects RX8 yX8_wall yX8_wall, Cond.code yX8_wall cX8_wall 8 (some .int), Cond.fieldLink RX8 65 "TouchUpModel" "fault" "I", Cond.fieldLink RX8 85 "TouchUpModel" "at" "I", Cond.fieldLink RX8 106 "TouchUpModel" "readHigh" "I", Cond.fieldLink RX8 75 "TouchUpModel" "high" "I", Cond.fieldLink RX8 109 "TouchUpModel" "readWide" "I", Cond.fieldLink RX8 78 "TouchUpModel" "wide" "I", Cond.fieldLink RX8 112 "TouchUpModel" "year" "I", Cond.fieldLink RX8 115 "TouchUpModel" "smoke" "I", Cond.fieldLink RX8 118 "TouchUpModel" "line" "I", Cond.fieldLink RX8 121 "TouchUpModel" "lights" "I", Cond.fieldLink RX8 124 "TouchUpModel" "coats" "I", Cond.methodLink RX8 88 yX8_isSheet]
def wsL_law_r9 : List Cond := [Cond.static yX8_isSheet, Cond.code yX8_isSheet cX8_isSheet 1 (some .boolean), Cond.methodLink RX8 71 yX8_within, Cond.static yX8_within, Cond.code yX8_within cX8_within 3 (some .boolean), Cond.methodLink RX8 92 yX8_isSort, Cond.static yX8_isSort, Cond.code yX8_isSort cX8_isSort 1 (some .boolean), Cond.methodLink RX8 95 yX8_against, Cond.instanceMethod yX8_against, Cond.selects RX8 yX8_against yX8_against, Cond.code yX8_against cX8_against 5 (some .int), Cond.methodLink RX8 99 yX8_fails, Cond.instanceMethod yX8_fails, Cond.selects RX8 yX8_fails yX8_fails, Cond.code yX8_fails cX8_fails 2 (some .int), Cond.methodLink RX8 103 yX8_readWall, Cond.instanceMethod yX8_readWall, Cond.selects RX8 yX8_readWall yX8_readWall, Cond.code yX8_readWall cX8_readWall 5 (some .boolean), Cond.methodLink RX8 130 yX8_digit, Cond.instanceMethod yX8_digit, Cond.selects RX8 yX8_digit yX8_digit, Cond.code yX8_digit cX8_digit 4 (some .int)]
def wsL_law_r10 : List Cond := [Cond.methodLink RX8 81 yX8_all, Cond.instanceMethod yX8_all, Cond.selects RX8 yX8_all yX8_all, Cond.code yX8_all cX8_all 1 (some .int), Cond.methodLink RX8 127 yX8_addCoat, Cond.instanceMethod yX8_addCoat, Cond.selects RX8 yX8_addCoat yX8_addCoat, Cond.code yX8_addCoat cX8_addCoat 5 (some .int), Cond.methodLink RL 18 yX7_ofCell, Cond.instanceMethod yX7_ofCell, Cond.selects RX7 yX7_ofCell yX7_ofCell, Cond.code yX7_ofCell cX7_ofCell 4 (some .int), Cond.fieldLink RX7 86 "TouchUp$Wall" "cells" "[LTouchUp$Cell;", Cond.fieldLink RX7 90 "TouchUp$Cell" "sun" "I", Cond.fieldLink RX7 95 "TouchUp$Cell" "coat" "I", Cond.fieldLink RX7 98 "TouchUp$Cell" "sunHad" "I", Cond.fieldLink RX7 101 "TouchUp$Cell" "air" "I", Cond.fieldLink RX7 104 "TouchUp$Cell" "hidden" "Z", Cond.methodLink RX7 83 yX6_hasCell, Cond.instanceMethod yX6_hasCell, Cond.selects RX6 yX6_hasCell yX6_hasCell, Cond.code yX6_hasCell cX6_hasCell 2 (some .boolean), Cond.methodLink RL 22 yX8_ofCell, Cond.instanceMethod yX8_ofCell]
def wsL_law_r11 : List Cond := [Cond.selects RX8 yX8_ofCell yX8_ofCell, Cond.code yX8_ofCell cX8_ofCell 3 (some .int), Cond.methodLink RX8 134 yX8_isCell, Cond.instanceMethod yX8_isCell, Cond.selects RX8 yX8_isCell yX8_isCell, Cond.code yX8_isCell cX8_isCell 2 (some .boolean), Cond.methodLink RL 23 yX7_set, Cond.instanceMethod yX7_set, Cond.selects RX7 yX7_set yX7_set, Cond.code yX7_set cX7_set 4 (some .int), Cond.fieldLink RX7 116 "TouchUp$Wall" "smoke" "I", Cond.fieldLink RX7 119 "TouchUp$Wall" "line" "I", Cond.methodLink RX7 112 yX6_stands, Cond.instanceMethod yX6_stands, Cond.selects RX6 yX6_stands yX6_stands, Cond.code yX6_stands cX6_stands 1 (some .boolean), Cond.methodLink RL 26 yX8_set, Cond.instanceMethod yX8_set, Cond.selects RX8 yX8_set yX8_set, Cond.code yX8_set cX8_set 4 (some .int), Cond.methodLink RL 27 yX7_years, Cond.instanceMethod yX7_years, Cond.selects RX7 yX7_years yX7_years, Cond.code yX7_years cX7_years 2 (some .int)]
def wsL_law_r12 : List Cond := [Cond.fieldLink RX7 122 "TouchUp$Wall" "year" "I", Cond.methodLink RX7 125 yX6_age, Cond.instanceMethod yX6_age, Cond.selects RX6 yX6_age yX6_age, Cond.code yX6_age cX6_age 3 none, Cond.methodLink RX6 67 yX0_age, Cond.instanceMethod yX0_age, Cond.selects RX0 yX0_age yX0_age, Cond.code yX0_age cX0_age 2 none, Cond.methodLink RL 31 yX8_years, Cond.instanceMethod yX8_years, Cond.selects RX8 yX8_years yX8_years, Cond.code yX8_years cX8_years 3 (some .int), Cond.methodLink RL 32 yX7_hang, Cond.instanceMethod yX7_hang, Cond.selects RX7 yX7_hang yX7_hang, Cond.code yX7_hang cX7_hang 5 (some .int), Cond.methodLink RL 36 yX8_hang, Cond.instanceMethod yX8_hang, Cond.selects RX8 yX8_hang yX8_hang, Cond.code yX8_hang cX8_hang 4 (some .int), Cond.methodLink RL 37 yX7_coat, Cond.instanceMethod yX7_coat, Cond.selects RX7 yX7_coat yX7_coat]
def wsL_law_r13 : List Cond := [Cond.code yX7_coat cX7_coat 5 (some .int), Cond.fieldLink RX7 136 "TouchUp$Wall" "coatCount" "I", Cond.methodLink RX7 129 yX7_isKind, Cond.static yX7_isKind, Cond.code yX7_isKind cX7_isKind 1 (some .boolean), Cond.methodLink RX7 132 yX7_areWithin, Cond.static yX7_areWithin, Cond.code yX7_areWithin cX7_areWithin 4 (some .boolean), Cond.methodLink RX7 139 yX6_addCoat, Cond.methodLink RL 40 yX8_coat, Cond.instanceMethod yX8_coat, Cond.selects RX8 yX8_coat yX8_coat, Cond.code yX8_coat cX8_coat 5 (some .int), Cond.methodLink RL 41 yX7_ofCoat, Cond.instanceMethod yX7_ofCoat, Cond.selects RX7 yX7_ofCoat yX7_ofCoat, Cond.code yX7_ofCoat cX7_ofCoat 4 (some .int), Cond.fieldLink RX7 146 "TouchUp$Wall" "coats" "[LTouchUp$Coat;", Cond.fieldLink RX7 150 "TouchUp$Coat" "kind" "I", Cond.fieldLink RX7 155 "TouchUp$Coat" "bands" "[I", Cond.methodLink RX7 143 yX6_hasCoat, Cond.instanceMethod yX6_hasCoat, Cond.selects RX6 yX6_hasCoat yX6_hasCoat, Cond.code yX6_hasCoat cX6_hasCoat 2 (some .boolean)]
def wsL_law_r14 : List Cond := [Cond.methodLink RL 44 yX8_ofCoat, Cond.instanceMethod yX8_ofCoat, Cond.selects RX8 yX8_ofCoat yX8_ofCoat, Cond.code yX8_ofCoat cX8_ofCoat 3 (some .int), Cond.methodLink RX8 137 yX8_isCoat, Cond.instanceMethod yX8_isCoat, Cond.selects RX8 yX8_isCoat yX8_isCoat, Cond.code yX8_isCoat cX8_isCoat 2 (some .boolean), Cond.methodLink RL 45 yX7_paint, Cond.instanceMethod yX7_paint, Cond.selects RX7 yX7_paint yX7_paint, Cond.code yX7_paint cX7_paint 5 (some .int), Cond.methodLink RX7 159 yX0_takeFresh, Cond.methodLink RL 48 yX8_paint, Cond.instanceMethod yX8_paint, Cond.selects RX8 yX8_paint yX8_paint, Cond.code yX8_paint cX8_paint 4 (some .int), Cond.methodLink RL 49 yX7_back, Cond.instanceMethod yX7_back, Cond.selects RX7 yX7_back yX7_back, Cond.code yX7_back cX7_back 5 (some .int), Cond.methodLink RX7 162 yX1_comesBack, Cond.instanceMethod yX1_comesBack, Cond.selects RX1 yX1_comesBack yX1_comesBack]
def wsL_law_r15 : List Cond := [Cond.code yX1_comesBack cX1_comesBack 7 (some .int), Cond.methodLink RX1 23 Lib.Math.max.name, Cond.static Lib.Math.max.name, Cond.initialized "java/lang/Math", Cond.code Lib.Math.max.name Lib.Math.max.code 2 (some .int), Cond.fieldLink RX1 15 "TouchUp$Coat" "kind" "I", Cond.methodLink RX1 19 yX1_lossIn, Cond.instanceMethod yX1_lossIn, Cond.selects RX1 yX1_lossIn yX1_lossIn, Cond.code yX1_lossIn cX1_lossIn 6 (some .int), Cond.methodLink RL 53 yX8_back, Cond.instanceMethod yX8_back, Cond.selects RX8 yX8_back yX8_back, Cond.code yX8_back cX8_back 4 (some .int), Cond.methodLink RX8 144 yX8_comesOf, Cond.instanceMethod yX8_comesOf, Cond.selects RX8 yX8_comesOf yX8_comesOf, Cond.code yX8_comesOf cX8_comesOf 6 (some .int), Cond.methodLink RX8 140 yX8_comes, Cond.instanceMethod yX8_comes, Cond.selects RX8 yX8_comes yX8_comes, Cond.code yX8_comes cX8_comes 9 (some .int), Cond.methodLink RL 54 yX7_light, Cond.instanceMethod yX7_light]
def wsL_law_r16 : List Cond := [Cond.selects RX7 yX7_light yX7_light, Cond.code yX7_light cX7_light 4 (some .int), Cond.fieldLink RX7 166 "TouchUp$Wall" "lightCount" "I", Cond.methodLink RX7 169 yX6_addLight, Cond.instanceMethod yX6_addLight, Cond.selects RX6 yX6_addLight yX6_addLight, Cond.code yX6_addLight cX6_addLight 5 (some .int), Cond.methodLink RL 58 yX8_light, Cond.instanceMethod yX8_light, Cond.selects RX8 yX8_light yX8_light, Cond.code yX8_light cX8_light 4 (some .int), Cond.methodLink RL 59 yX7_look, Cond.instanceMethod yX7_look, Cond.selects RX7 yX7_look yX7_look, Cond.code yX7_look cX7_look 4 (some .int), Cond.methodLink RX7 173 yX6_hasLight, Cond.instanceMethod yX6_hasLight, Cond.selects RX6 yX6_hasLight yX6_hasLight, Cond.code yX6_hasLight cX6_hasLight 2 (some .boolean), Cond.methodLink RX7 176 yX6_lookOfCell, Cond.instanceMethod yX6_lookOfCell, Cond.selects RX6 yX6_lookOfCell yX6_lookOfCell, Cond.code yX6_lookOfCell cX6_lookOfCell 5 (some .int), Cond.fieldLink RX6 80 "TouchUp$Cell" "coat" "I"]
def wsL_law_r17 : List Cond := [Cond.fieldLink RX6 83 "TouchUp$Cell" "sunHad" "I", Cond.fieldLink RX6 86 "TouchUp$Cell" "air" "I", Cond.methodLink RX6 89 yX6_lookOfCoat, Cond.instanceMethod yX6_lookOfCoat, Cond.selects RX6 yX6_lookOfCoat yX6_lookOfCoat, Cond.code yX6_lookOfCoat cX6_lookOfCoat 8 (some .int), Cond.methodLink RX6 76 yX1_comesBack, Cond.methodLink RL 62 yX8_look, Cond.instanceMethod yX8_look, Cond.selects RX8 yX8_look yX8_look, Cond.code yX8_look cX8_look 4 (some .int), Cond.methodLink RX8 151 yX8_isLight, Cond.instanceMethod yX8_isLight, Cond.selects RX8 yX8_isLight yX8_isLight, Cond.code yX8_isLight cX8_isLight 2 (some .boolean), Cond.methodLink RX8 154 yX8_lookNow, Cond.instanceMethod yX8_lookNow, Cond.selects RX8 yX8_lookNow yX8_lookNow, Cond.code yX8_lookNow cX8_lookNow 4 (some .int), Cond.methodLink RX8 148 yX8_lookOf, Cond.instanceMethod yX8_lookOf, Cond.selects RX8 yX8_lookOf yX8_lookOf, Cond.code yX8_lookOf cX8_lookOf 8 (some .int), Cond.methodLink RL 63 yX7_unlike]
def wsL_law_r18 : List Cond := [Cond.instanceMethod yX7_unlike, Cond.selects RX7 yX7_unlike yX7_unlike, Cond.code yX7_unlike cX7_unlike 5 (some .int), Cond.methodLink RX7 180 Lib.Math.abs.name, Cond.static Lib.Math.abs.name, Cond.code Lib.Math.abs.name Lib.Math.abs.code 1 (some .int), Cond.methodLink RL 67 yX8_unlike, Cond.instanceMethod yX8_unlike, Cond.selects RX8 yX8_unlike yX8_unlike, Cond.code yX8_unlike cX8_unlike 5 (some .int), Cond.methodLink RX8 158 yX8_size, Cond.static yX8_size, Cond.code yX8_size cX8_size 1 (some .int), Cond.methodLink RL 68 yX7_seen, Cond.instanceMethod yX7_seen, Cond.selects RX7 yX7_seen yX7_seen, Cond.code yX7_seen cX7_seen 2 (some .int), Cond.methodLink RX7 185 yX2_takeAsItIs, Cond.instanceMethod yX2_takeAsItIs, Cond.selects RX2 yX2_takeAsItIs yX2_takeAsItIs, Cond.code yX2_takeAsItIs cX2_takeAsItIs 3 none, Cond.fieldLink RX2 22 "TouchUp$Wall" "count" "I", Cond.methodLink RX2 28 yX6_views, Cond.instanceMethod yX6_views]
def wsL_law_r19 : List Cond := [Cond.selects RX6 yX6_views yX6_views, Cond.code yX6_views cX6_views 1 (some .int), Cond.methodLink RX2 32 yX6_lookOfCell, Cond.methodLink RX2 36 yX2_unpaint, Cond.instanceMethod yX2_unpaint, Cond.selects RX2 yX2_unpaint yX2_unpaint, Cond.code yX2_unpaint cX2_unpaint 2 none, Cond.methodLink RX7 188 yX2_countSeen, Cond.instanceMethod yX2_countSeen, Cond.selects RX2 yX2_countSeen yX2_countSeen, Cond.code yX2_countSeen cX2_countSeen 3 (some .int), Cond.methodLink RX2 47 yX2_isSeenToRight, Cond.instanceMethod yX2_isSeenToRight, Cond.selects RX2 yX2_isSeenToRight yX2_isSeenToRight, Cond.code yX2_isSeenToRight cX2_isSeenToRight 2 (some .boolean), Cond.fieldLink RX2 58 "TouchUp$Wall" "wide" "I", Cond.methodLink RX2 54 yX6_columnOf, Cond.instanceMethod yX6_columnOf, Cond.selects RX6 yX6_columnOf yX6_columnOf, Cond.code yX6_columnOf cX6_columnOf 2 (some .int), Cond.methodLink RX2 61 yX2_isSeenBetween, Cond.instanceMethod yX2_isSeenBetween, Cond.selects RX2 yX2_isSeenBetween yX2_isSeenBetween, Cond.code yX2_isSeenBetween cX2_isSeenBetween 6 (some .boolean)]
def wsL_law_r20 : List Cond := [Cond.methodLink RX2 65 Lib.Math.abs.name, Cond.fieldLink RX2 70 "TouchUp$Wall" "line" "I", Cond.methodLink RX2 51 yX2_isSeenBelow, Cond.instanceMethod yX2_isSeenBelow, Cond.selects RX2 yX2_isSeenBelow yX2_isSeenBelow, Cond.code yX2_isSeenBelow cX2_isSeenBelow 2 (some .boolean), Cond.methodLink RX7 192 yX2_countSeenOf, Cond.instanceMethod yX2_countSeenOf, Cond.selects RX2 yX2_countSeenOf yX2_countSeenOf, Cond.code yX2_countSeenOf cX2_countSeenOf 3 (some .int), Cond.methodLink RL 71 yX8_seen, Cond.instanceMethod yX8_seen, Cond.selects RX8 yX8_seen yX8_seen, Cond.code yX8_seen cX8_seen 2 (some .int), Cond.methodLink RX8 165 yX8_seenOf, Cond.instanceMethod yX8_seenOf, Cond.selects RX8 yX8_seenOf yX8_seenOf, Cond.code yX8_seenOf cX8_seenOf 6 (some .int), Cond.methodLink RX8 161 yX8_isEdge, Cond.instanceMethod yX8_isEdge, Cond.selects RX8 yX8_isEdge yX8_isEdge, Cond.code yX8_isEdge cX8_isEdge 5 (some .boolean), Cond.methodLink RL 72 yX7_mix, Cond.instanceMethod yX7_mix]
def wsL_law_r21 : List Cond := [Cond.selects RX7 yX7_mix yX7_mix, Cond.code yX7_mix cX7_mix 6 (some .int), Cond.methodLink RX7 195 yX3_pour, Cond.instanceMethod yX3_pour, Cond.selects RX3 yX3_pour yX3_pour, Cond.code yX3_pour cX3_pour 5 none, Cond.methodLink RX7 199 yX3_isMix, Cond.instanceMethod yX3_isMix, Cond.selects RX3 yX3_isMix yX3_isMix, Cond.code yX3_isMix cX3_isMix 3 (some .boolean), Cond.methodLink RX3 36 yX6_hasCoat, Cond.methodLink RX7 202 yX3_stir, Cond.instanceMethod yX3_stir, Cond.selects RX3 yX3_stir yX3_stir, Cond.code yX3_stir cX3_stir 5 (some (.object "TouchUp$Coat")), Cond.methodLink RX3 46 Lib.Math.max.name, Cond.fieldLink RX3 52 "TouchUp$Wall" "coats" "[LTouchUp$Coat;", Cond.fieldLink RX3 56 "TouchUp$Coat" "bands" "[I", Cond.fieldLink RX3 62 "TouchUp$Coat" "kind" "I", Cond.methodLink RX3 42 yX3_sumOfDrops, Cond.instanceMethod yX3_sumOfDrops, Cond.selects RX3 yX3_sumOfDrops yX3_sumOfDrops, Cond.code yX3_sumOfDrops cX3_sumOfDrops 1 (some .int), Cond.methodLink RX3 59 yX3_leastInIt]
def wsL_law_r22 : List Cond := [Cond.instanceMethod yX3_leastInIt, Cond.selects RX3 yX3_leastInIt yX3_leastInIt, Cond.code yX3_leastInIt cX3_leastInIt 2 (some .int), Cond.methodLink RL 75 yX8_mix, Cond.instanceMethod yX8_mix, Cond.selects RX8 yX8_mix yX8_mix, Cond.code yX8_mix cX8_mix 5 (some .int), Cond.fieldLink RX8 168 "TouchUpModel" "mixKind" "I", Cond.methodLink RX8 171 yX8_areDrops, Cond.instanceMethod yX8_areDrops, Cond.selects RX8 yX8_areDrops yX8_areDrops, Cond.code yX8_areDrops cX8_areDrops 3 (some .boolean), Cond.methodLink RX8 175 yX8_layMix, Cond.instanceMethod yX8_layMix, Cond.selects RX8 yX8_layMix yX8_layMix, Cond.code yX8_layMix cX8_layMix 5 none, Cond.methodLink RL 76 yX7_best, Cond.instanceMethod yX7_best, Cond.selects RX7 yX7_best yX7_best, Cond.code yX7_best cX7_best 3 (some .int), Cond.fieldLink RX7 209 "TouchUp$Mixer" "leastUnlike" "I", Cond.fieldLink RX7 212 "TouchUp$Mixer" "bestDrops" "[I", Cond.methodLink RX7 206 yX3_searchFor, Cond.instanceMethod yX3_searchFor]
def wsL_law_r23 : List Cond := [Cond.selects RX3 yX3_searchFor yX3_searchFor, Cond.code yX3_searchFor cX3_searchFor 7 none, Cond.constant RX3 75 (2147483647), Cond.fieldLink RX3 76 "TouchUp$Mixer" "leastUnlike" "I", Cond.fieldLink RX3 79 "TouchUp$Mixer" "fewestDrops" "I", Cond.methodLink RX3 66 yX6_views, Cond.methodLink RX3 69 yX6_lookOfCell, Cond.methodLink RX3 82 yX3_pour, Cond.methodLink RX3 86 yX3_keepIfBetter, Cond.instanceMethod yX3_keepIfBetter, Cond.selects RX3 yX3_keepIfBetter yX3_keepIfBetter, Cond.code yX3_keepIfBetter cX3_keepIfBetter 3 none, Cond.methodLink RX3 100 arraycopyName, Cond.native arraycopyName, Cond.static arraycopyName, Cond.initialized "java/lang/System", Cond.methodLink RX3 89 yX3_isMix, Cond.methodLink RX3 93 yX3_stir, Cond.methodLink RX3 97 yX3_farthestApart, Cond.instanceMethod yX3_farthestApart, Cond.selects RX3 yX3_farthestApart yX3_farthestApart, Cond.code yX3_farthestApart cX3_farthestApart 4 (some .int), Cond.methodLink RX3 110 Lib.Math.abs.name, Cond.methodLink RX3 106 yX6_lookOfCoat]
def wsL_law_r24 : List Cond := [Cond.methodLink RL 79 yX8_best, Cond.instanceMethod yX8_best, Cond.selects RX8 yX8_best yX8_best, Cond.code yX8_best cX8_best 3 (some .int), Cond.fieldLink RX8 178 "TouchUpModel" "bestUnlike" "I", Cond.methodLink RX8 184 yX8_findBest, Cond.instanceMethod yX8_findBest, Cond.selects RX8 yX8_findBest yX8_findBest, Cond.code yX8_findBest cX8_findBest 6 none, Cond.methodLink RX8 181 yX8_mixUnlike, Cond.instanceMethod yX8_mixUnlike, Cond.selects RX8 yX8_mixUnlike yX8_mixUnlike, Cond.code yX8_mixUnlike cX8_mixUnlike 7 (some .int), Cond.methodLink RL 80 yX7_traitors, Cond.instanceMethod yX7_traitors, Cond.selects RX7 yX7_traitors yX7_traitors, Cond.code yX7_traitors cX7_traitors 7 (some .int), Cond.methodLink RX7 215 yX6_areTraitors, Cond.instanceMethod yX6_areTraitors, Cond.selects RX6 yX6_areTraitors yX6_areTraitors, Cond.code yX6_areTraitors cX6_areTraitors 5 (some .boolean), Cond.methodLink RX6 93 yX6_apartFresh, Cond.instanceMethod yX6_apartFresh, Cond.selects RX6 yX6_apartFresh yX6_apartFresh]
def wsL_law_r25 : List Cond := [Cond.code yX6_apartFresh cX6_apartFresh 4 (some .int), Cond.methodLink RX6 97 Lib.Math.abs.name, Cond.methodLink RL 83 yX8_traitors, Cond.instanceMethod yX8_traitors, Cond.selects RX8 yX8_traitors yX8_traitors, Cond.code yX8_traitors cX8_traitors 7 (some .int), Cond.methodLink RX8 188 yX8_freshUnlike, Cond.instanceMethod yX8_freshUnlike, Cond.selects RX8 yX8_freshUnlike yX8_freshUnlike, Cond.code yX8_freshUnlike cX8_freshUnlike 4 (some .int), Cond.methodLink RL 84 yX7_patch, Cond.instanceMethod yX7_patch, Cond.selects RX7 yX7_patch yX7_patch, Cond.code yX7_patch cX7_patch 4 (some .int), Cond.fieldLink RX7 222 "TouchUp$Patch" "size" "I", Cond.fieldLink RX7 225 "TouchUp$Patch" "first" "I", Cond.fieldLink RX7 228 "TouchUp$Patch" "last" "I", Cond.methodLink RX7 218 yX4_searchAround, Cond.instanceMethod yX4_searchAround, Cond.selects RX4 yX4_searchAround yX4_searchAround, Cond.code yX4_searchAround cX4_searchAround 9 none, Cond.fieldLink RX4 17 "TouchUp$Patch" "size" "I", Cond.fieldLink RX4 39 "TouchUp$Wall" "high" "I", Cond.fieldLink RX4 42 "TouchUp$Wall" "wide" "I"]
def wsL_law_r26 : List Cond := [Cond.methodLink RX4 21 yX2_takeAsItIs, Cond.methodLink RX4 26 yX2_takeFresh, Cond.instanceMethod yX2_takeFresh, Cond.selects RX2 yX2_takeFresh yX2_takeFresh, Cond.code yX2_takeFresh cX2_takeFresh 3 none, Cond.fieldLink RX2 39 "TouchUp$Wall" "coats" "[LTouchUp$Coat;", Cond.methodLink RX2 43 yX6_lookOfCoat, Cond.methodLink RX4 30 yX6_rowOf, Cond.instanceMethod yX6_rowOf, Cond.selects RX6 yX6_rowOf yX6_rowOf, Cond.code yX6_rowOf cX6_rowOf 2 (some .int), Cond.methodLink RX4 36 yX6_columnOf, Cond.methodLink RX4 45 yX4_keepIfBetter, Cond.instanceMethod yX4_keepIfBetter, Cond.selects RX4 yX4_keepIfBetter yX4_keepIfBetter, Cond.code yX4_keepIfBetter cX4_keepIfBetter 8 none, Cond.fieldLink RX4 59 "TouchUp$Patch" "first" "I", Cond.fieldLink RX4 62 "TouchUp$Patch" "last" "I", Cond.methodLink RX4 49 yX2_unpaint, Cond.methodLink RX4 52 yX2_paintOne, Cond.instanceMethod yX2_paintOne, Cond.selects RX2 yX2_paintOne yX2_paintOne, Cond.code yX2_paintOne cX2_paintOne 2 none, Cond.methodLink RX4 55 yX2_isAnySeen]
def wsL_law_r27 : List Cond := [Cond.instanceMethod yX2_isAnySeen, Cond.selects RX2 yX2_isAnySeen yX2_isAnySeen, Cond.code yX2_isAnySeen cX2_isAnySeen 2 (some .boolean), Cond.methodLink RL 87 yX8_patch, Cond.instanceMethod yX8_patch, Cond.selects RX8 yX8_patch yX8_patch, Cond.code yX8_patch cX8_patch 4 (some .int), Cond.fieldLink RX8 201 "TouchUpModel" "patchMany" "I", Cond.fieldLink RX8 207 "TouchUpModel" "patchFirst" "I", Cond.fieldLink RX8 210 "TouchUpModel" "patchLast" "I", Cond.methodLink RX8 217 yX8_findPatch, Cond.instanceMethod yX8_findPatch, Cond.selects RX8 yX8_findPatch yX8_findPatch, Cond.code yX8_findPatch cX8_findPatch 7 none, Cond.methodLink RX8 213 yX8_offer, Cond.instanceMethod yX8_offer, Cond.selects RX8 yX8_offer yX8_offer, Cond.code yX8_offer cX8_offer 6 none, Cond.methodLink RX8 204 yX8_seenWith, Cond.instanceMethod yX8_seenWith, Cond.selects RX8 yX8_seenWith yX8_seenWith, Cond.code yX8_seenWith cX8_seenWith 7 (some .int), Cond.methodLink RX8 191 yX8_keepAll, Cond.instanceMethod yX8_keepAll]
def wsL_law_r28 : List Cond := [Cond.selects RX8 yX8_keepAll yX8_keepAll, Cond.code yX8_keepAll cX8_keepAll 2 none, Cond.methodLink RX8 194 yX8_paint, Cond.methodLink RX8 198 yX8_takeAll, Cond.instanceMethod yX8_takeAll, Cond.selects RX8 yX8_takeAll yX8_takeAll, Cond.code yX8_takeAll cX8_takeAll 2 none, Cond.methodLink RL 88 yX7_leave, Cond.instanceMethod yX7_leave, Cond.selects RX7 yX7_leave yX7_leave, Cond.code yX7_leave cX7_leave 4 (some .int), Cond.methodLink RX7 231 yX2_takeFresh, Cond.methodLink RX7 232 yX2_paintOne, Cond.methodLink RL 91 yX8_leave, Cond.instanceMethod yX8_leave, Cond.selects RX8 yX8_leave yX8_leave, Cond.code yX8_leave cX8_leave 3 (some .int), Cond.methodLink RL 92 yX7_on, Cond.instanceMethod yX7_on, Cond.selects RX7 yX7_on yX7_on, Cond.code yX7_on cX7_on 6 (some .int), Cond.methodLink RX7 235 yX6_lookOfCoat, Cond.methodLink RL 95 yX8_on, Cond.instanceMethod yX8_on]
def wsL_law_r29 : List Cond := [Cond.selects RX8 yX8_on yX8_on, Cond.code yX8_on cX8_on 5 (some .int), Cond.methodLink RL 96 yX7_hide, Cond.instanceMethod yX7_hide, Cond.selects RX7 yX7_hide yX7_hide, Cond.code yX7_hide cX7_hide 6 (some .int), Cond.methodLink RL 99 yX8_hide, Cond.instanceMethod yX8_hide, Cond.selects RX8 yX8_hide yX8_hide, Cond.code yX8_hide cX8_hide 6 (some .int), Cond.methodLink RL 100 yX7_hung, Cond.instanceMethod yX7_hung, Cond.selects RX7 yX7_hung yX7_hung, Cond.code yX7_hung cX7_hung 12 (some .int), Cond.methodLink RX7 239 yX5_faultOfCells, Cond.instanceMethod yX5_faultOfCells, Cond.selects RX5 yX5_faultOfCells yX5_faultOfCells, Cond.code yX5_faultOfCells cX5_faultOfCells 5 (some .int), Cond.methodLink RX5 32 yX5_faultAs, Cond.methodLink RX5 36 yX5_reaches, Cond.methodLink RX7 242 yX7_isAsTold, Cond.instanceMethod yX7_isAsTold, Cond.selects RX7 yX7_isAsTold yX7_isAsTold, Cond.code yX7_isAsTold cX7_isAsTold 8 (some .boolean)]
def wsL_law_r30 : List Cond := [Cond.fieldLink RX7 254 "TouchUp$Sheet" "row" "[I", Cond.methodLink RL 104 yX8_hung, Cond.instanceMethod yX8_hung, Cond.selects RX8 yX8_hung yX8_hung, Cond.code yX8_hung cX8_hung 12 (some .int), Cond.methodLink RX8 221 yX8_isSo, Cond.instanceMethod yX8_isSo, Cond.selects RX8 yX8_isSo yX8_isSo, Cond.code yX8_isSo cX8_isSo 6 (some .boolean), Cond.methodLink RL 105 yX7_old, Cond.instanceMethod yX7_old, Cond.selects RX7 yX7_old yX7_old, Cond.code yX7_old cX7_old 10 (some .long), Cond.constantLong RX7 246 (-9223372036854775808), Cond.methodLink RL 109 yX8_old, Cond.instanceMethod yX8_old, Cond.selects RX8 yX8_old yX8_old, Cond.code yX8_old cX8_old 10 (some .long), Cond.constantLong RX8 69 (-9223372036854775808), Cond.methodLink RX8 225 yX8_lost, Cond.instanceMethod yX8_lost, Cond.selects RX8 yX8_lost yX8_lost, Cond.code yX8_lost cX8_lost 2 (some .long), Cond.methodLink RL 110 yX7_sheet]
def wsL_law_r31 : List Cond := [Cond.instanceMethod yX7_sheet, Cond.selects RX7 yX7_sheet yX7_sheet, Cond.code yX7_sheet cX7_sheet 4 (some .int), Cond.methodLink RX7 248 yX5_begin, Cond.instanceMethod yX5_begin, Cond.selects RX5 yX5_begin yX5_begin, Cond.code yX5_begin cX5_begin 3 none, Cond.methodLink RX5 26 yJ7_fill_53178, Cond.static yJ7_fill_53178, Cond.initialized RJ7, Cond.code yJ7_fill_53178 cJ7_fill_53178 4 none, Cond.methodLink RL 113 yX8_sheet, Cond.instanceMethod yX8_sheet, Cond.selects RX8 yX8_sheet yX8_sheet, Cond.code yX8_sheet cX8_sheet 5 (some .int), Cond.methodLink RL 114 yX7_lose, Cond.instanceMethod yX7_lose, Cond.selects RX7 yX7_lose yX7_lose, Cond.code yX7_lose cX7_lose 3 (some .int), Cond.fieldLink RX7 251 "TouchUp$Sheet" "has" "Z", Cond.methodLink RL 117 yX8_lose, Cond.instanceMethod yX8_lose, Cond.selects RX8 yX8_lose yX8_lose, Cond.code yX8_lose cX8_lose 3 (some .int)]
def wsL_law_r32 : List Cond := [Cond.methodLink RL 118 yX7_put, Cond.instanceMethod yX7_put, Cond.selects RX7 yX7_put yX7_put, Cond.code yX7_put cX7_put 5 (some .int), Cond.methodLink RX7 257 yX5_cut, Cond.instanceMethod yX5_cut, Cond.selects RX5 yX5_cut yX5_cut, Cond.code yX5_cut cX5_cut 2 (some .int), Cond.methodLink RL 121 yX8_put, Cond.instanceMethod yX8_put, Cond.selects RX8 yX8_put yX8_put, Cond.code yX8_put cX8_put 4 (some .int), Cond.methodLink RL 122 yX7_cell, Cond.instanceMethod yX7_cell, Cond.selects RX7 yX7_cell yX7_cell, Cond.code yX7_cell cX7_cell 5 (some .long), Cond.methodLink RL 126 yX8_cell, Cond.instanceMethod yX8_cell, Cond.selects RX8 yX8_cell yX8_cell, Cond.code yX8_cell cX8_cell 4 (some .long), Cond.methodLink RL 127 yX7_copy, Cond.instanceMethod yX7_copy, Cond.selects RX7 yX7_copy yX7_copy, Cond.code yX7_copy cX7_copy 8 (some .int)]
def wsL_law_r33 : List Cond := [Cond.fieldLink RX7 260 "TouchUp$Sheet" "sort" "I", Cond.methodLink RX7 263 arraycopyName, Cond.methodLink RL 131 yX8_copy, Cond.instanceMethod yX8_copy, Cond.selects RX8 yX8_copy yX8_copy, Cond.code yX8_copy cX8_copy 10 (some .int), Cond.methodLink RL 132 yX7_tell, Cond.instanceMethod yX7_tell, Cond.selects RX7 yX7_tell yX7_tell, Cond.code yX7_tell cX7_tell 3 (some .int), Cond.methodLink RX7 269 yX7_tellFast, Cond.instanceMethod yX7_tellFast, Cond.selects RX7 yX7_tellFast yX7_tellFast, Cond.code yX7_tellFast cX7_tellFast 3 (some .int), Cond.methodLink RX7 279 yX7_mark, Cond.instanceMethod yX7_mark, Cond.selects RX7 yX7_mark yX7_mark, Cond.code yX7_mark cX7_mark 2 none, Cond.fieldLink RX7 282 "TouchUp" "marks" "I", Cond.methodLink RX7 273 yX7_tellShiny, Cond.instanceMethod yX7_tellShiny, Cond.selects RX7 yX7_tellShiny yX7_tellShiny, Cond.code yX7_tellShiny cX7_tellShiny 2 (some .int), Cond.methodLink RX7 276 yX7_tellPlain]
def wsL_law_r34 : List Cond := [Cond.instanceMethod yX7_tellPlain, Cond.selects RX7 yX7_tellPlain yX7_tellPlain, Cond.code yX7_tellPlain cX7_tellPlain 2 (some .int), Cond.methodLink RL 135 yX8_tell, Cond.instanceMethod yX8_tell, Cond.selects RX8 yX8_tell yX8_tell, Cond.code yX8_tell cX8_tell 3 (some .int), Cond.methodLink RX8 232 yX8_begins, Cond.instanceMethod yX8_begins, Cond.selects RX8 yX8_begins yX8_begins, Cond.code yX8_begins cX8_begins 2 none, Cond.fieldLink RX8 229 "TouchUpModel" "trace" "I", Cond.methodLink RL 136 yX7_name, Cond.instanceMethod yX7_name, Cond.selects RX7 yX7_name yX7_name, Cond.code yX7_name cX7_name 2 (some .int), Cond.methodLink RL 139 yX8_name, Cond.instanceMethod yX8_name, Cond.selects RX8 yX8_name yX8_name, Cond.code yX8_name cX8_name 2 (some .int), Cond.methodLink RL 140 yX7_as, Cond.instanceMethod yX7_as, Cond.selects RX7 yX7_as yX7_as, Cond.code yX7_as cX7_as 3 (some .int)]
def wsL_law_r35 : List Cond := [Cond.methodLink RL 143 yX8_as, Cond.instanceMethod yX8_as, Cond.selects RX8 yX8_as yX8_as, Cond.code yX8_as cX8_as 3 (some .int), Cond.methodLink RL 144 yX7_trace, Cond.instanceMethod yX7_trace, Cond.selects RX7 yX7_trace yX7_trace, Cond.code yX7_trace cX7_trace 1 (some .int), Cond.methodLink RL 148 yX8_trace, Cond.instanceMethod yX8_trace, Cond.selects RX8 yX8_trace yX8_trace, Cond.code yX8_trace cX8_trace 1 (some .int), Cond.methodLink RL 149 yX7_fault, Cond.instanceMethod yX7_fault, Cond.selects RX7 yX7_fault yX7_fault, Cond.code yX7_fault cX7_fault 1 (some .int), Cond.methodLink RL 152 yX8_fault, Cond.instanceMethod yX8_fault, Cond.selects RX8 yX8_fault yX8_fault, Cond.code yX8_fault cX8_fault 1 (some .int), Cond.methodLink RL 153 yX7_many, Cond.instanceMethod yX7_many, Cond.selects RX7 yX7_many yX7_many, Cond.code yX7_many cX7_many 2 (some .int)]
def wsL_law_r36 : List Cond := [Cond.fieldLink RX7 285 "TouchUp$Wall" "wide" "I", Cond.methodLink RL 156 yX8_many, Cond.instanceMethod yX8_many, Cond.selects RX8 yX8_many yX8_many, Cond.code yX8_many cX8_many 2 (some .int)]
def wsL_law : List Cond := (wsL_law_r1 ++ (wsL_law_r2 ++ (wsL_law_r3 ++ (wsL_law_r4 ++ (wsL_law_r5 ++ (wsL_law_r6 ++ (wsL_law_r7 ++ (wsL_law_r8 ++ (wsL_law_r9 ++ (wsL_law_r10 ++ (wsL_law_r11 ++ (wsL_law_r12 ++ (wsL_law_r13 ++ (wsL_law_r14 ++ (wsL_law_r15 ++ (wsL_law_r16 ++ (wsL_law_r17 ++ (wsL_law_r18 ++ (wsL_law_r19 ++ (wsL_law_r20 ++ (wsL_law_r21 ++ (wsL_law_r22 ++ (wsL_law_r23 ++ (wsL_law_r24 ++ (wsL_law_r25 ++ (wsL_law_r26 ++ (wsL_law_r27 ++ (wsL_law_r28 ++ (wsL_law_r29 ++ (wsL_law_r30 ++ (wsL_law_r31 ++ (wsL_law_r32 ++ (wsL_law_r33 ++ (wsL_law_r34 ++ (wsL_law_r35 ++ wsL_law_r36))))))))))))))))))))))))))))))))))) ++ wsX70 ++ wsX80 ++ wsX60 ++ wsX20 ++ wsX30 ++ wsX40 ++ wsX50 ++ wsX00 ++ wsX10 ++ ([] : List Cond)
abbrev vwCl : List vw_C := [(RX0, TX0, 5), (RX1, TX1, 2), (RX2, TX2, 3), (RX3, TX3, 7), (RX4, TX4, 5), (RX5, TX5, 4), (RX6, TX6, 11), (RX7, TX7, 7), (RX8, TX8, 35)]
end
section
theorem dJ9_abs_0f7a4_0 : decode cJ9_abs_0f7a4 0 = .ok (.iload_n 0, 1) := by decide +kernel
theorem dJ9_abs_0f7a4_1 : decode cJ9_abs_0f7a4 1 = .ok (.ifCond .ge 8, 3) := by decide +kernel
theorem dJ9_abs_0f7a4_4 : decode cJ9_abs_0f7a4 4 = .ok (.iload_n 0, 1) := by decide +kernel
theorem dJ9_abs_0f7a4_5 : decode cJ9_abs_0f7a4 5 = .ok (.ineg, 1) := by decide +kernel
theorem dJ9_abs_0f7a4_6 : decode cJ9_abs_0f7a4 6 = .ok (.goto 4, 3) := by decide +kernel
theorem dJ9_abs_0f7a4_9 : decode cJ9_abs_0f7a4 9 = .ok (.iload_n 0, 1) := by decide +kernel
theorem dJ9_abs_0f7a4_10 : decode cJ9_abs_0f7a4 10 = .ok (.ireturn, 1) := by decide +kernel
theorem dJ9_max_7cf53_0 : decode cJ9_max_7cf53 0 = .ok (.iload_n 0, 1) := by decide +kernel
theorem dJ9_max_7cf53_1 : decode cJ9_max_7cf53 1 = .ok (.iload_n 1, 1) := by decide +kernel
theorem dJ9_max_7cf53_2 : decode cJ9_max_7cf53 2 = .ok (.if_icmp .lt 7, 3) := by decide +kernel
theorem dJ9_max_7cf53_5 : decode cJ9_max_7cf53 5 = .ok (.iload_n 0, 1) := by decide +kernel
theorem dJ9_max_7cf53_6 : decode cJ9_max_7cf53 6 = .ok (.goto 4, 3) := by decide +kernel
theorem dJ9_max_7cf53_9 : decode cJ9_max_7cf53 9 = .ok (.iload_n 1, 1) := by decide +kernel
theorem dJ9_max_7cf53_10 : decode cJ9_max_7cf53 10 = .ok (.ireturn, 1) := by decide +kernel
theorem dJ7_fill_53178_0 : decode cJ7_fill_53178 0 = .ok (.iconst 0, 1) := by decide +kernel
theorem dJ7_fill_53178_1 : decode cJ7_fill_53178 1 = .ok (.istore_n 2, 1) := by decide +kernel
theorem dJ7_fill_53178_2 : decode cJ7_fill_53178 2 = .ok (.aload_n 0, 1) := by decide +kernel
theorem dJ7_fill_53178_3 : decode cJ7_fill_53178 3 = .ok (.arraylength, 1) := by decide +kernel
theorem dJ7_fill_53178_4 : decode cJ7_fill_53178 4 = .ok (.istore_n 3, 1) := by decide +kernel
theorem dJ7_fill_53178_5 : decode cJ7_fill_53178 5 = .ok (.iload_n 2, 1) := by decide +kernel
theorem dJ7_fill_53178_6 : decode cJ7_fill_53178 6 = .ok (.iload_n 3, 1) := by decide +kernel
theorem dJ7_fill_53178_7 : decode cJ7_fill_53178 7 = .ok (.if_icmp .ge 13, 3) := by decide +kernel
theorem dJ7_fill_53178_10 : decode cJ7_fill_53178 10 = .ok (.aload_n 0, 1) := by decide +kernel
theorem dJ7_fill_53178_11 : decode cJ7_fill_53178 11 = .ok (.iload_n 2, 1) := by decide +kernel
theorem dJ7_fill_53178_12 : decode cJ7_fill_53178 12 = .ok (.iload_n 1, 1) := by decide +kernel
theorem dJ7_fill_53178_13 : decode cJ7_fill_53178 13 = .ok (.iastore, 1) := by decide +kernel
theorem dJ7_fill_53178_14 : decode cJ7_fill_53178 14 = .ok (.iinc 2 1, 3) := by decide +kernel
theorem dJ7_fill_53178_17 : decode cJ7_fill_53178 17 = .ok (.goto (-12), 3) := by decide +kernel
theorem dJ7_fill_53178_20 : decode cJ7_fill_53178 20 = .ok (.return_, 1) := by decide +kernel
theorem dX0_init_0 : decode cX0_init 0 = .ok (.aload_n 0, 1) := by decide +kernel
theorem dX0_init_1 : decode cX0_init 1 = .ok (.invokespecial 1, 3) := by decide +kernel
theorem dX0_init_4 : decode cX0_init 4 = .ok (.return_, 1) := by decide +kernel
theorem dX0_takeFresh_0 : decode cX0_takeFresh 0 = .ok (.aload_n 0, 1) := by decide +kernel
theorem dX0_takeFresh_1 : decode cX0_takeFresh 1 = .ok (.iload_n 1, 1) := by decide +kernel
theorem dX0_takeFresh_2 : decode cX0_takeFresh 2 = .ok (.putfield 7, 3) := by decide +kernel
theorem dX0_takeFresh_5 : decode cX0_takeFresh 5 = .ok (.aload_n 0, 1) := by decide +kernel
theorem dX0_takeFresh_6 : decode cX0_takeFresh 6 = .ok (.iconst 0, 1) := by decide +kernel
theorem dX0_takeFresh_7 : decode cX0_takeFresh 7 = .ok (.putfield 13, 3) := by decide +kernel
theorem dX0_takeFresh_10 : decode cX0_takeFresh 10 = .ok (.aload_n 0, 1) := by decide +kernel
theorem dX0_takeFresh_11 : decode cX0_takeFresh 11 = .ok (.iconst 0, 1) := by decide +kernel
theorem dX0_takeFresh_12 : decode cX0_takeFresh 12 = .ok (.putfield 16, 3) := by decide +kernel
theorem dX0_takeFresh_15 : decode cX0_takeFresh 15 = .ok (.return_, 1) := by decide +kernel
set_option maxRecDepth 20000 in
theorem ggX0_begin_X0_takeFresh : GoodIn wsX0_begin wsX0_takeFresh := goodIn_r _ [7, 8, 9, 10, 11, 12, 13, 14, 15] (by decide +kernel) (by decide +kernel)
set_option maxRecDepth 20000 in
theorem gX0_begin_X0_takeFresh : GoodIn wsX0_begin (wsV RX0 26 RX0 yX0_takeFresh wsX0_takeFresh) := goodIn_app (goodIn_of _ (by decide +kernel)) ggX0_begin_X0_takeFresh
theorem dX0_begin_0 : decode cX0_begin 0 = .ok (.aload_n 0, 1) := by decide +kernel
theorem dX0_begin_1 : decode cX0_begin 1 = .ok (.iload_n 1, 1) := by decide +kernel
theorem dX0_begin_2 : decode cX0_begin 2 = .ok (.putfield 19, 3) := by decide +kernel
theorem dX0_begin_5 : decode cX0_begin 5 = .ok (.aload_n 0, 1) := by decide +kernel
theorem dX0_begin_6 : decode cX0_begin 6 = .ok (.iconst 0, 1) := by decide +kernel
theorem dX0_begin_7 : decode cX0_begin 7 = .ok (.putfield 22, 3) := by decide +kernel
theorem dX0_begin_10 : decode cX0_begin 10 = .ok (.aload_n 0, 1) := by decide +kernel
theorem dX0_begin_11 : decode cX0_begin 11 = .ok (.iconst 0, 1) := by decide +kernel
theorem dX0_begin_12 : decode cX0_begin 12 = .ok (.invokevirtual 26, 3) := by decide +kernel
theorem dX0_begin_15 : decode cX0_begin 15 = .ok (.return_, 1) := by decide +kernel
theorem dX0_age_0 : decode cX0_age 0 = .ok (.aload_n 0, 1) := by decide +kernel
theorem dX0_age_1 : decode cX0_age 1 = .ok (.getfield 22, 3) := by decide +kernel
theorem dX0_age_4 : decode cX0_age 4 = .ok (.ifCond .ne 28, 3) := by decide +kernel
theorem dX0_age_7 : decode cX0_age 7 = .ok (.aload_n 0, 1) := by decide +kernel
theorem dX0_age_8 : decode cX0_age 8 = .ok (.dup, 1) := by decide +kernel
theorem dX0_age_9 : decode cX0_age 9 = .ok (.getfield 13, 3) := by decide +kernel
theorem dX0_age_12 : decode cX0_age 12 = .ok (.iload_n 1, 1) := by decide +kernel
theorem dX0_age_13 : decode cX0_age 13 = .ok (.aload_n 0, 1) := by decide +kernel
theorem dX0_age_14 : decode cX0_age 14 = .ok (.getfield 19, 3) := by decide +kernel
theorem dX0_age_17 : decode cX0_age 17 = .ok (.imul, 1) := by decide +kernel
theorem dX0_age_18 : decode cX0_age 18 = .ok (.iadd, 1) := by decide +kernel
theorem dX0_age_19 : decode cX0_age 19 = .ok (.putfield 13, 3) := by decide +kernel
theorem dX0_age_22 : decode cX0_age 22 = .ok (.aload_n 0, 1) := by decide +kernel
theorem dX0_age_23 : decode cX0_age 23 = .ok (.dup, 1) := by decide +kernel
theorem dX0_age_24 : decode cX0_age 24 = .ok (.getfield 16, 3) := by decide +kernel
theorem dX0_age_27 : decode cX0_age 27 = .ok (.iload_n 1, 1) := by decide +kernel
theorem dX0_age_28 : decode cX0_age 28 = .ok (.iadd, 1) := by decide +kernel
theorem dX0_age_29 : decode cX0_age 29 = .ok (.putfield 16, 3) := by decide +kernel
theorem dX0_age_32 : decode cX0_age 32 = .ok (.return_, 1) := by decide +kernel
theorem dX1_init_0 : decode cX1_init 0 = .ok (.aload_n 0, 1) := by decide +kernel
theorem dX1_init_1 : decode cX1_init 1 = .ok (.invokespecial 3, 3) := by decide +kernel
theorem dX1_init_4 : decode cX1_init 4 = .ok (.aload_n 0, 1) := by decide +kernel
theorem dX1_init_5 : decode cX1_init 5 = .ok (.iconst 3, 1) := by decide +kernel
theorem dX1_init_6 : decode cX1_init 6 = .ok (.newarray .int, 2) := by decide +kernel
theorem dX1_init_8 : decode cX1_init 8 = .ok (.putfield 9, 3) := by decide +kernel
theorem dX1_init_11 : decode cX1_init 11 = .ok (.return_, 1) := by decide +kernel
theorem dX1_lossIn_0 : decode cX1_lossIn 0 = .ok (.iload_n 2, 1) := by decide +kernel
theorem dX1_lossIn_1 : decode cX1_lossIn 1 = .ok (.iload_n 1, 1) := by decide +kernel
theorem dX1_lossIn_2 : decode cX1_lossIn 2 = .ok (.iconst 1, 1) := by decide +kernel
theorem dX1_lossIn_3 : decode cX1_lossIn 3 = .ok (.iadd, 1) := by decide +kernel
theorem dX1_lossIn_4 : decode cX1_lossIn 4 = .ok (.imul, 1) := by decide +kernel
theorem dX1_lossIn_5 : decode cX1_lossIn 5 = .ok (.bipush 10, 2) := by decide +kernel
theorem dX1_lossIn_7 : decode cX1_lossIn 7 = .ok (.idiv, 1) := by decide +kernel
theorem dX1_lossIn_8 : decode cX1_lossIn 8 = .ok (.iload_n 3, 1) := by decide +kernel
theorem dX1_lossIn_9 : decode cX1_lossIn 9 = .ok (.iload 4, 2) := by decide +kernel
theorem dX1_lossIn_11 : decode cX1_lossIn 11 = .ok (.imul, 1) := by decide +kernel
theorem dX1_lossIn_12 : decode cX1_lossIn 12 = .ok (.iconst 5, 1) := by decide +kernel
theorem dX1_lossIn_13 : decode cX1_lossIn 13 = .ok (.idiv, 1) := by decide +kernel
theorem dX1_lossIn_14 : decode cX1_lossIn 14 = .ok (.iadd, 1) := by decide +kernel
theorem dX1_lossIn_15 : decode cX1_lossIn 15 = .ok (.istore 5, 2) := by decide +kernel
theorem dX1_lossIn_17 : decode cX1_lossIn 17 = .ok (.aload_n 0, 1) := by decide +kernel
theorem dX1_lossIn_18 : decode cX1_lossIn 18 = .ok (.getfield 15, 3) := by decide +kernel
theorem dX1_lossIn_21 : decode cX1_lossIn 21 = .ok (.iconst 2, 1) := by decide +kernel
theorem dX1_lossIn_22 : decode cX1_lossIn 22 = .ok (.if_icmp .ne 10, 3) := by decide +kernel
theorem dX1_lossIn_25 : decode cX1_lossIn 25 = .ok (.iload 5, 2) := by decide +kernel
theorem dX1_lossIn_27 : decode cX1_lossIn 27 = .ok (.iconst 2, 1) := by decide +kernel
theorem dX1_lossIn_28 : decode cX1_lossIn 28 = .ok (.idiv, 1) := by decide +kernel
theorem dX1_lossIn_29 : decode cX1_lossIn 29 = .ok (.goto 5, 3) := by decide +kernel
theorem dX1_lossIn_32 : decode cX1_lossIn 32 = .ok (.iload 5, 2) := by decide +kernel
theorem dX1_lossIn_34 : decode cX1_lossIn 34 = .ok (.ireturn, 1) := by decide +kernel
set_option maxRecDepth 20000 in
theorem ggX1_comesBack_X1_lossIn : GoodIn wsX1_comesBack wsX1_lossIn := goodIn_r _ [11, 6, 12, 13] (by decide +kernel) (by decide +kernel)
set_option maxRecDepth 20000 in
theorem gX1_comesBack_X1_lossIn : GoodIn wsX1_comesBack (wsV RX1 19 RX1 yX1_lossIn wsX1_lossIn) := goodIn_app (goodIn_of _ (by decide +kernel)) ggX1_comesBack_X1_lossIn
theorem dX1_comesBack_0 : decode cX1_comesBack 0 = .ok (.iconst 0, 1) := by decide +kernel
theorem dX1_comesBack_1 : decode cX1_comesBack 1 = .ok (.aload_n 0, 1) := by decide +kernel
theorem dX1_comesBack_2 : decode cX1_comesBack 2 = .ok (.getfield 9, 3) := by decide +kernel
theorem dX1_comesBack_5 : decode cX1_comesBack 5 = .ok (.iload_n 1, 1) := by decide +kernel
theorem dX1_comesBack_6 : decode cX1_comesBack 6 = .ok (.iaload, 1) := by decide +kernel
theorem dX1_comesBack_7 : decode cX1_comesBack 7 = .ok (.aload_n 0, 1) := by decide +kernel
theorem dX1_comesBack_8 : decode cX1_comesBack 8 = .ok (.iload_n 1, 1) := by decide +kernel
theorem dX1_comesBack_9 : decode cX1_comesBack 9 = .ok (.iload_n 2, 1) := by decide +kernel
theorem dX1_comesBack_10 : decode cX1_comesBack 10 = .ok (.iload_n 3, 1) := by decide +kernel
theorem dX1_comesBack_11 : decode cX1_comesBack 11 = .ok (.iload 4, 2) := by decide +kernel
theorem dX1_comesBack_13 : decode cX1_comesBack 13 = .ok (.invokevirtual 19, 3) := by decide +kernel
theorem dX1_comesBack_16 : decode cX1_comesBack 16 = .ok (.isub, 1) := by decide +kernel
theorem dX1_comesBack_17 : decode cX1_comesBack 17 = .ok (.invokestatic 23, 3) := by decide +kernel
theorem dX1_comesBack_20 : decode cX1_comesBack 20 = .ok (.istore 6, 2) := by decide +kernel
theorem dX1_comesBack_22 : decode cX1_comesBack 22 = .ok (.iload 5, 2) := by decide +kernel
theorem dX1_comesBack_24 : decode cX1_comesBack 24 = .ok (.ifCond .eq 18, 3) := by decide +kernel
theorem dX1_comesBack_27 : decode cX1_comesBack 27 = .ok (.aload_n 0, 1) := by decide +kernel
theorem dX1_comesBack_28 : decode cX1_comesBack 28 = .ok (.getfield 15, 3) := by decide +kernel
theorem dX1_comesBack_31 : decode cX1_comesBack 31 = .ok (.iconst 1, 1) := by decide +kernel
theorem dX1_comesBack_32 : decode cX1_comesBack 32 = .ok (.if_icmp .lt 10, 3) := by decide +kernel
theorem dX1_comesBack_35 : decode cX1_comesBack 35 = .ok (.iload 6, 2) := by decide +kernel
theorem dX1_comesBack_37 : decode cX1_comesBack 37 = .ok (.iconst 5, 1) := by decide +kernel
theorem dX1_comesBack_38 : decode cX1_comesBack 38 = .ok (.iadd, 1) := by decide +kernel
theorem dX1_comesBack_39 : decode cX1_comesBack 39 = .ok (.goto 5, 3) := by decide +kernel
theorem dX1_comesBack_42 : decode cX1_comesBack 42 = .ok (.iload 6, 2) := by decide +kernel
theorem dX1_comesBack_44 : decode cX1_comesBack 44 = .ok (.ireturn, 1) := by decide +kernel
theorem dX2_init_0 : decode cX2_init 0 = .ok (.aload_n 0, 1) := by decide +kernel
theorem dX2_init_1 : decode cX2_init 1 = .ok (.invokespecial 3, 3) := by decide +kernel
theorem dX2_init_4 : decode cX2_init 4 = .ok (.aload_n 0, 1) := by decide +kernel
theorem dX2_init_5 : decode cX2_init 5 = .ok (.sipush 200, 3) := by decide +kernel
theorem dX2_init_8 : decode cX2_init 8 = .ok (.newarray .int, 2) := by decide +kernel
theorem dX2_init_10 : decode cX2_init 10 = .ok (.putfield 9, 3) := by decide +kernel
theorem dX2_init_13 : decode cX2_init 13 = .ok (.aload_n 0, 1) := by decide +kernel
theorem dX2_init_14 : decode cX2_init 14 = .ok (.bipush 24, 2) := by decide +kernel
theorem dX2_init_16 : decode cX2_init 16 = .ok (.newarray .int, 2) := by decide +kernel
theorem dX2_init_18 : decode cX2_init 18 = .ok (.putfield 15, 3) := by decide +kernel
theorem dX2_init_21 : decode cX2_init 21 = .ok (.aload_n 0, 1) := by decide +kernel
theorem dX2_init_22 : decode cX2_init 22 = .ok (.aload_n 1, 1) := by decide +kernel
theorem dX2_init_23 : decode cX2_init 23 = .ok (.putfield 18, 3) := by decide +kernel
theorem dX2_init_26 : decode cX2_init 26 = .ok (.return_, 1) := by decide +kernel
set_option maxRecDepth 20000 in
theorem ggX2_takeAsItIs_X6_views : GoodIn wsX2_takeAsItIs wsX6_views := goodIn_r _ [8, 9, 49, 50, 51, 52, 53, 54, 55, 56, 57, 58, 59] (by decide +kernel) (by decide +kernel)
set_option maxRecDepth 20000 in
theorem gX2_takeAsItIs_X6_views : GoodIn wsX2_takeAsItIs (wsV RX2 28 RX6 yX6_views wsX6_views) := goodIn_app (goodIn_of _ (by decide +kernel)) ggX2_takeAsItIs_X6_views
set_option maxRecDepth 20000 in
theorem ggX2_takeAsItIs_X6_lookOfCell : GoodIn wsX2_takeAsItIs wsX6_lookOfCell := goodIn_r _ [13, 14, 15, 16, 17, 18, 19, 20, 21, 7, 22, 23, 24, 25, 26, 27, 28, 29, 30, 31, 32, 33, 34, 35, 36, 37, 38, 39, 49, 50, 51, 52, 53, 54, 55, 56, 57, 58, 59, 60, 61, 62, 63, 64, 65, 66] (by decide +kernel) (by decide +kernel)
set_option maxRecDepth 20000 in
theorem gX2_takeAsItIs_X6_lookOfCell : GoodIn wsX2_takeAsItIs (wsV RX2 32 RX6 yX6_lookOfCell wsX6_lookOfCell) := goodIn_app (goodIn_of _ (by decide +kernel)) ggX2_takeAsItIs_X6_lookOfCell
set_option maxRecDepth 20000 in
theorem ggX2_takeAsItIs_X2_unpaint : GoodIn wsX2_takeAsItIs wsX2_unpaint := goodIn_r _ [44, 1, 2, 45, 46, 47, 48, 49, 50, 51, 52, 53, 54, 55, 56, 57, 58, 59] (by decide +kernel) (by decide +kernel)
set_option maxRecDepth 20000 in
theorem gX2_takeAsItIs_X2_unpaint : GoodIn wsX2_takeAsItIs (wsV RX2 36 RX2 yX2_unpaint wsX2_unpaint) := goodIn_app (goodIn_of _ (by decide +kernel)) ggX2_takeAsItIs_X2_unpaint
theorem dX2_takeAsItIs_0 : decode cX2_takeAsItIs 0 = .ok (.iconst 0, 1) := by decide +kernel
theorem dX2_takeAsItIs_1 : decode cX2_takeAsItIs 1 = .ok (.istore_n 1, 1) := by decide +kernel
theorem dX2_takeAsItIs_2 : decode cX2_takeAsItIs 2 = .ok (.iload_n 1, 1) := by decide +kernel
theorem dX2_takeAsItIs_3 : decode cX2_takeAsItIs 3 = .ok (.aload_n 0, 1) := by decide +kernel
theorem dX2_takeAsItIs_4 : decode cX2_takeAsItIs 4 = .ok (.getfield 18, 3) := by decide +kernel
theorem dX2_takeAsItIs_7 : decode cX2_takeAsItIs 7 = .ok (.getfield 22, 3) := by decide +kernel
theorem dX2_takeAsItIs_10 : decode cX2_takeAsItIs 10 = .ok (.if_icmp .ge 62, 3) := by decide +kernel
theorem dX2_takeAsItIs_13 : decode cX2_takeAsItIs 13 = .ok (.iconst 0, 1) := by decide +kernel
theorem dX2_takeAsItIs_14 : decode cX2_takeAsItIs 14 = .ok (.istore_n 2, 1) := by decide +kernel
theorem dX2_takeAsItIs_15 : decode cX2_takeAsItIs 15 = .ok (.iload_n 2, 1) := by decide +kernel
theorem dX2_takeAsItIs_16 : decode cX2_takeAsItIs 16 = .ok (.aload_n 0, 1) := by decide +kernel
theorem dX2_takeAsItIs_17 : decode cX2_takeAsItIs 17 = .ok (.getfield 18, 3) := by decide +kernel
theorem dX2_takeAsItIs_20 : decode cX2_takeAsItIs 20 = .ok (.invokevirtual 28, 3) := by decide +kernel
theorem dX2_takeAsItIs_23 : decode cX2_takeAsItIs 23 = .ok (.if_icmp .ge 43, 3) := by decide +kernel
theorem dX2_takeAsItIs_26 : decode cX2_takeAsItIs 26 = .ok (.aload_n 0, 1) := by decide +kernel
theorem dX2_takeAsItIs_27 : decode cX2_takeAsItIs 27 = .ok (.getfield 9, 3) := by decide +kernel
theorem dX2_takeAsItIs_30 : decode cX2_takeAsItIs 30 = .ok (.iload_n 1, 1) := by decide +kernel
theorem dX2_takeAsItIs_31 : decode cX2_takeAsItIs 31 = .ok (.bipush 8, 2) := by decide +kernel
theorem dX2_takeAsItIs_33 : decode cX2_takeAsItIs 33 = .ok (.imul, 1) := by decide +kernel
theorem dX2_takeAsItIs_34 : decode cX2_takeAsItIs 34 = .ok (.iload_n 2, 1) := by decide +kernel
theorem dX2_takeAsItIs_35 : decode cX2_takeAsItIs 35 = .ok (.iadd, 1) := by decide +kernel
theorem dX2_takeAsItIs_36 : decode cX2_takeAsItIs 36 = .ok (.aload_n 0, 1) := by decide +kernel
theorem dX2_takeAsItIs_37 : decode cX2_takeAsItIs 37 = .ok (.getfield 18, 3) := by decide +kernel
theorem dX2_takeAsItIs_40 : decode cX2_takeAsItIs 40 = .ok (.iload_n 1, 1) := by decide +kernel
theorem dX2_takeAsItIs_41 : decode cX2_takeAsItIs 41 = .ok (.iload_n 2, 1) := by decide +kernel
theorem dX2_takeAsItIs_42 : decode cX2_takeAsItIs 42 = .ok (.iconst 2, 1) := by decide +kernel
theorem dX2_takeAsItIs_43 : decode cX2_takeAsItIs 43 = .ok (.idiv, 1) := by decide +kernel
theorem dX2_takeAsItIs_44 : decode cX2_takeAsItIs 44 = .ok (.iload_n 2, 1) := by decide +kernel
theorem dX2_takeAsItIs_45 : decode cX2_takeAsItIs 45 = .ok (.iconst 2, 1) := by decide +kernel
theorem dX2_takeAsItIs_46 : decode cX2_takeAsItIs 46 = .ok (.irem, 1) := by decide +kernel
theorem dX2_takeAsItIs_47 : decode cX2_takeAsItIs 47 = .ok (.iconst 1, 1) := by decide +kernel
theorem dX2_takeAsItIs_48 : decode cX2_takeAsItIs 48 = .ok (.if_icmp .ne 7, 3) := by decide +kernel
theorem dX2_takeAsItIs_51 : decode cX2_takeAsItIs 51 = .ok (.iconst 1, 1) := by decide +kernel
theorem dX2_takeAsItIs_52 : decode cX2_takeAsItIs 52 = .ok (.goto 4, 3) := by decide +kernel
theorem dX2_takeAsItIs_55 : decode cX2_takeAsItIs 55 = .ok (.iconst 0, 1) := by decide +kernel
theorem dX2_takeAsItIs_56 : decode cX2_takeAsItIs 56 = .ok (.invokevirtual 32, 3) := by decide +kernel
theorem dX2_takeAsItIs_59 : decode cX2_takeAsItIs 59 = .ok (.iastore, 1) := by decide +kernel
theorem dX2_takeAsItIs_60 : decode cX2_takeAsItIs 60 = .ok (.iinc 2 1, 3) := by decide +kernel
theorem dX2_takeAsItIs_63 : decode cX2_takeAsItIs 63 = .ok (.goto (-48), 3) := by decide +kernel
theorem dX2_takeAsItIs_66 : decode cX2_takeAsItIs 66 = .ok (.iinc 1 1, 3) := by decide +kernel
theorem dX2_takeAsItIs_69 : decode cX2_takeAsItIs 69 = .ok (.goto (-67), 3) := by decide +kernel
theorem dX2_takeAsItIs_72 : decode cX2_takeAsItIs 72 = .ok (.aload_n 0, 1) := by decide +kernel
theorem dX2_takeAsItIs_73 : decode cX2_takeAsItIs 73 = .ok (.invokevirtual 36, 3) := by decide +kernel
theorem dX2_takeAsItIs_76 : decode cX2_takeAsItIs 76 = .ok (.return_, 1) := by decide +kernel
set_option maxRecDepth 20000 in
theorem ggX2_takeFresh_X6_views : GoodIn wsX2_takeFresh wsX6_views := goodIn_r _ [8, 9, 34, 35, 36, 37, 38, 39, 40, 41, 42, 43, 44] (by decide +kernel) (by decide +kernel)
set_option maxRecDepth 20000 in
theorem gX2_takeFresh_X6_views : GoodIn wsX2_takeFresh (wsV RX2 28 RX6 yX6_views wsX6_views) := goodIn_app (goodIn_of _ (by decide +kernel)) ggX2_takeFresh_X6_views
set_option maxRecDepth 20000 in
theorem ggX2_takeFresh_X6_lookOfCoat : GoodIn wsX2_takeFresh wsX6_lookOfCoat := goodIn_r _ [13, 14, 15, 16, 17, 18, 19, 20, 21, 22, 23, 24, 25, 26, 27, 28, 29, 30, 34, 35, 36, 37, 38, 39, 40, 41, 42, 43, 44, 45, 46] (by decide +kernel) (by decide +kernel)
set_option maxRecDepth 20000 in
theorem gX2_takeFresh_X6_lookOfCoat : GoodIn wsX2_takeFresh (wsV RX2 43 RX6 yX6_lookOfCoat wsX6_lookOfCoat) := goodIn_app (goodIn_of _ (by decide +kernel)) ggX2_takeFresh_X6_lookOfCoat
theorem dX2_takeFresh_0 : decode cX2_takeFresh 0 = .ok (.iconst 0, 1) := by decide +kernel
theorem dX2_takeFresh_1 : decode cX2_takeFresh 1 = .ok (.istore_n 2, 1) := by decide +kernel
theorem dX2_takeFresh_2 : decode cX2_takeFresh 2 = .ok (.iload_n 2, 1) := by decide +kernel
theorem dX2_takeFresh_3 : decode cX2_takeFresh 3 = .ok (.aload_n 0, 1) := by decide +kernel
theorem dX2_takeFresh_4 : decode cX2_takeFresh 4 = .ok (.getfield 18, 3) := by decide +kernel
theorem dX2_takeFresh_7 : decode cX2_takeFresh 7 = .ok (.invokevirtual 28, 3) := by decide +kernel
theorem dX2_takeFresh_10 : decode cX2_takeFresh 10 = .ok (.if_icmp .ge 52, 3) := by decide +kernel
theorem dX2_takeFresh_13 : decode cX2_takeFresh 13 = .ok (.aload_n 0, 1) := by decide +kernel
theorem dX2_takeFresh_14 : decode cX2_takeFresh 14 = .ok (.getfield 9, 3) := by decide +kernel
theorem dX2_takeFresh_17 : decode cX2_takeFresh 17 = .ok (.sipush 192, 3) := by decide +kernel
theorem dX2_takeFresh_20 : decode cX2_takeFresh 20 = .ok (.iload_n 2, 1) := by decide +kernel
theorem dX2_takeFresh_21 : decode cX2_takeFresh 21 = .ok (.iadd, 1) := by decide +kernel
theorem dX2_takeFresh_22 : decode cX2_takeFresh 22 = .ok (.aload_n 0, 1) := by decide +kernel
theorem dX2_takeFresh_23 : decode cX2_takeFresh 23 = .ok (.getfield 18, 3) := by decide +kernel
theorem dX2_takeFresh_26 : decode cX2_takeFresh 26 = .ok (.aload_n 0, 1) := by decide +kernel
theorem dX2_takeFresh_27 : decode cX2_takeFresh 27 = .ok (.getfield 18, 3) := by decide +kernel
theorem dX2_takeFresh_30 : decode cX2_takeFresh 30 = .ok (.getfield 39, 3) := by decide +kernel
theorem dX2_takeFresh_33 : decode cX2_takeFresh 33 = .ok (.iload_n 1, 1) := by decide +kernel
theorem dX2_takeFresh_34 : decode cX2_takeFresh 34 = .ok (.aaload, 1) := by decide +kernel
theorem dX2_takeFresh_35 : decode cX2_takeFresh 35 = .ok (.iconst 0, 1) := by decide +kernel
theorem dX2_takeFresh_36 : decode cX2_takeFresh 36 = .ok (.iconst 0, 1) := by decide +kernel
theorem dX2_takeFresh_37 : decode cX2_takeFresh 37 = .ok (.iload_n 2, 1) := by decide +kernel
theorem dX2_takeFresh_38 : decode cX2_takeFresh 38 = .ok (.iconst 2, 1) := by decide +kernel
theorem dX2_takeFresh_39 : decode cX2_takeFresh 39 = .ok (.idiv, 1) := by decide +kernel
theorem dX2_takeFresh_40 : decode cX2_takeFresh 40 = .ok (.iload_n 2, 1) := by decide +kernel
theorem dX2_takeFresh_41 : decode cX2_takeFresh 41 = .ok (.iconst 2, 1) := by decide +kernel
theorem dX2_takeFresh_42 : decode cX2_takeFresh 42 = .ok (.irem, 1) := by decide +kernel
theorem dX2_takeFresh_43 : decode cX2_takeFresh 43 = .ok (.iconst 1, 1) := by decide +kernel
theorem dX2_takeFresh_44 : decode cX2_takeFresh 44 = .ok (.if_icmp .ne 7, 3) := by decide +kernel
theorem dX2_takeFresh_47 : decode cX2_takeFresh 47 = .ok (.iconst 1, 1) := by decide +kernel
theorem dX2_takeFresh_48 : decode cX2_takeFresh 48 = .ok (.goto 4, 3) := by decide +kernel
theorem dX2_takeFresh_51 : decode cX2_takeFresh 51 = .ok (.iconst 0, 1) := by decide +kernel
theorem dX2_takeFresh_52 : decode cX2_takeFresh 52 = .ok (.invokevirtual 43, 3) := by decide +kernel
theorem dX2_takeFresh_55 : decode cX2_takeFresh 55 = .ok (.iastore, 1) := by decide +kernel
theorem dX2_takeFresh_56 : decode cX2_takeFresh 56 = .ok (.iinc 2 1, 3) := by decide +kernel
theorem dX2_takeFresh_59 : decode cX2_takeFresh 59 = .ok (.goto (-57), 3) := by decide +kernel
theorem dX2_takeFresh_62 : decode cX2_takeFresh 62 = .ok (.return_, 1) := by decide +kernel
theorem dX2_unpaint_0 : decode cX2_unpaint 0 = .ok (.iconst 0, 1) := by decide +kernel
theorem dX2_unpaint_1 : decode cX2_unpaint 1 = .ok (.istore_n 1, 1) := by decide +kernel
theorem dX2_unpaint_2 : decode cX2_unpaint 2 = .ok (.iload_n 1, 1) := by decide +kernel
theorem dX2_unpaint_3 : decode cX2_unpaint 3 = .ok (.aload_n 0, 1) := by decide +kernel
theorem dX2_unpaint_4 : decode cX2_unpaint 4 = .ok (.getfield 18, 3) := by decide +kernel
theorem dX2_unpaint_7 : decode cX2_unpaint 7 = .ok (.getfield 22, 3) := by decide +kernel
theorem dX2_unpaint_10 : decode cX2_unpaint 10 = .ok (.if_icmp .ge 16, 3) := by decide +kernel
theorem dX2_unpaint_13 : decode cX2_unpaint 13 = .ok (.aload_n 0, 1) := by decide +kernel
theorem dX2_unpaint_14 : decode cX2_unpaint 14 = .ok (.getfield 15, 3) := by decide +kernel
theorem dX2_unpaint_17 : decode cX2_unpaint 17 = .ok (.iload_n 1, 1) := by decide +kernel
theorem dX2_unpaint_18 : decode cX2_unpaint 18 = .ok (.iload_n 1, 1) := by decide +kernel
theorem dX2_unpaint_19 : decode cX2_unpaint 19 = .ok (.iastore, 1) := by decide +kernel
theorem dX2_unpaint_20 : decode cX2_unpaint 20 = .ok (.iinc 1 1, 3) := by decide +kernel
theorem dX2_unpaint_23 : decode cX2_unpaint 23 = .ok (.goto (-21), 3) := by decide +kernel
theorem dX2_unpaint_26 : decode cX2_unpaint 26 = .ok (.return_, 1) := by decide +kernel
theorem dX2_paintOne_0 : decode cX2_paintOne 0 = .ok (.aload_n 0, 1) := by decide +kernel
theorem dX2_paintOne_1 : decode cX2_paintOne 1 = .ok (.getfield 15, 3) := by decide +kernel
theorem dX2_paintOne_4 : decode cX2_paintOne 4 = .ok (.iload_n 1, 1) := by decide +kernel
theorem dX2_paintOne_5 : decode cX2_paintOne 5 = .ok (.bipush 24, 2) := by decide +kernel
theorem dX2_paintOne_7 : decode cX2_paintOne 7 = .ok (.iastore, 1) := by decide +kernel
theorem dX2_paintOne_8 : decode cX2_paintOne 8 = .ok (.return_, 1) := by decide +kernel
set_option maxRecDepth 20000 in
theorem ggX2_countSeen_X2_isSeenToRight : GoodIn wsX2_countSeen wsX2_isSeenToRight := goodIn_r _ [7, 1, 8, 9, 10, 11, 12, 13, 14, 15, 16, 17, 6, 18, 19, 20, 21, 22, 23, 24, 25, 26, 27, 28, 29, 30, 35, 36, 37, 38, 39, 40, 41, 42, 43, 44, 45, 46, 47, 48] (by decide +kernel) (by decide +kernel)
set_option maxRecDepth 20000 in
theorem gX2_countSeen_X2_isSeenToRight : GoodIn wsX2_countSeen (wsV RX2 47 RX2 yX2_isSeenToRight wsX2_isSeenToRight) := goodIn_app (goodIn_of _ (by decide +kernel)) ggX2_countSeen_X2_isSeenToRight
set_option maxRecDepth 20000 in
theorem ggX2_countSeen_X2_isSeenBelow : GoodIn wsX2_countSeen wsX2_isSeenBelow := goodIn_r _ [34, 1, 8, 2, 15, 16, 17, 6, 18, 19, 20, 21, 22, 23, 24, 25, 26, 27, 28, 12, 29, 30, 35, 36, 37, 38, 39, 40, 41, 42, 43, 44, 45, 46, 47, 48] (by decide +kernel) (by decide +kernel)
set_option maxRecDepth 20000 in
theorem gX2_countSeen_X2_isSeenBelow : GoodIn wsX2_countSeen (wsV RX2 51 RX2 yX2_isSeenBelow wsX2_isSeenBelow) := goodIn_app (goodIn_of _ (by decide +kernel)) ggX2_countSeen_X2_isSeenBelow
theorem dX2_countSeen_0 : decode cX2_countSeen 0 = .ok (.iconst 0, 1) := by decide +kernel
theorem dX2_countSeen_1 : decode cX2_countSeen 1 = .ok (.istore_n 1, 1) := by decide +kernel
theorem dX2_countSeen_2 : decode cX2_countSeen 2 = .ok (.iconst 0, 1) := by decide +kernel
theorem dX2_countSeen_3 : decode cX2_countSeen 3 = .ok (.istore_n 2, 1) := by decide +kernel
theorem dX2_countSeen_4 : decode cX2_countSeen 4 = .ok (.iload_n 2, 1) := by decide +kernel
theorem dX2_countSeen_5 : decode cX2_countSeen 5 = .ok (.aload_n 0, 1) := by decide +kernel
theorem dX2_countSeen_6 : decode cX2_countSeen 6 = .ok (.getfield 18, 3) := by decide +kernel
theorem dX2_countSeen_9 : decode cX2_countSeen 9 = .ok (.getfield 22, 3) := by decide +kernel
theorem dX2_countSeen_12 : decode cX2_countSeen 12 = .ok (.if_icmp .ge 41, 3) := by decide +kernel
theorem dX2_countSeen_15 : decode cX2_countSeen 15 = .ok (.iload_n 1, 1) := by decide +kernel
theorem dX2_countSeen_16 : decode cX2_countSeen 16 = .ok (.aload_n 0, 1) := by decide +kernel
theorem dX2_countSeen_17 : decode cX2_countSeen 17 = .ok (.iload_n 2, 1) := by decide +kernel
theorem dX2_countSeen_18 : decode cX2_countSeen 18 = .ok (.invokevirtual 47, 3) := by decide +kernel
theorem dX2_countSeen_21 : decode cX2_countSeen 21 = .ok (.ifCond .eq 7, 3) := by decide +kernel
theorem dX2_countSeen_24 : decode cX2_countSeen 24 = .ok (.iconst 1, 1) := by decide +kernel
theorem dX2_countSeen_25 : decode cX2_countSeen 25 = .ok (.goto 4, 3) := by decide +kernel
theorem dX2_countSeen_28 : decode cX2_countSeen 28 = .ok (.iconst 0, 1) := by decide +kernel
theorem dX2_countSeen_29 : decode cX2_countSeen 29 = .ok (.iadd, 1) := by decide +kernel
theorem dX2_countSeen_30 : decode cX2_countSeen 30 = .ok (.istore_n 1, 1) := by decide +kernel
theorem dX2_countSeen_31 : decode cX2_countSeen 31 = .ok (.iload_n 1, 1) := by decide +kernel
theorem dX2_countSeen_32 : decode cX2_countSeen 32 = .ok (.aload_n 0, 1) := by decide +kernel
theorem dX2_countSeen_33 : decode cX2_countSeen 33 = .ok (.iload_n 2, 1) := by decide +kernel
theorem dX2_countSeen_34 : decode cX2_countSeen 34 = .ok (.invokevirtual 51, 3) := by decide +kernel
theorem dX2_countSeen_37 : decode cX2_countSeen 37 = .ok (.ifCond .eq 7, 3) := by decide +kernel
theorem dX2_countSeen_40 : decode cX2_countSeen 40 = .ok (.iconst 1, 1) := by decide +kernel
theorem dX2_countSeen_41 : decode cX2_countSeen 41 = .ok (.goto 4, 3) := by decide +kernel
theorem dX2_countSeen_44 : decode cX2_countSeen 44 = .ok (.iconst 0, 1) := by decide +kernel
theorem dX2_countSeen_45 : decode cX2_countSeen 45 = .ok (.iadd, 1) := by decide +kernel
theorem dX2_countSeen_46 : decode cX2_countSeen 46 = .ok (.istore_n 1, 1) := by decide +kernel
theorem dX2_countSeen_47 : decode cX2_countSeen 47 = .ok (.iinc 2 1, 3) := by decide +kernel
theorem dX2_countSeen_50 : decode cX2_countSeen 50 = .ok (.goto (-46), 3) := by decide +kernel
theorem dX2_countSeen_53 : decode cX2_countSeen 53 = .ok (.iload_n 1, 1) := by decide +kernel
theorem dX2_countSeen_54 : decode cX2_countSeen 54 = .ok (.ireturn, 1) := by decide +kernel
set_option maxRecDepth 20000 in
theorem ggX2_countSeenOf_X2_isSeenToRight : GoodIn wsX2_countSeenOf wsX2_isSeenToRight := goodIn_r _ [7, 1, 2, 8, 9, 10, 11, 12, 13, 14, 15, 16, 6, 17, 18, 19, 20, 21, 22, 23, 24, 25, 26, 27, 28, 29, 35, 36, 37, 38, 39, 40, 41, 42, 43, 44, 45, 46, 47, 48] (by decide +kernel) (by decide +kernel)
set_option maxRecDepth 20000 in
theorem gX2_countSeenOf_X2_isSeenToRight : GoodIn wsX2_countSeenOf (wsV RX2 47 RX2 yX2_isSeenToRight wsX2_isSeenToRight) := goodIn_app (goodIn_of _ (by decide +kernel)) ggX2_countSeenOf_X2_isSeenToRight
set_option maxRecDepth 20000 in
theorem ggX2_countSeenOf_X2_isSeenBelow : GoodIn wsX2_countSeenOf wsX2_isSeenBelow := goodIn_r _ [33, 1, 2, 34, 14, 15, 16, 6, 17, 18, 19, 20, 21, 22, 23, 24, 25, 26, 27, 11, 28, 29, 35, 36, 37, 38, 39, 40, 41, 42, 43, 44, 45, 46, 47, 48] (by decide +kernel) (by decide +kernel)
set_option maxRecDepth 20000 in
theorem gX2_countSeenOf_X2_isSeenBelow : GoodIn wsX2_countSeenOf (wsV RX2 51 RX2 yX2_isSeenBelow wsX2_isSeenBelow) := goodIn_app (goodIn_of _ (by decide +kernel)) ggX2_countSeenOf_X2_isSeenBelow
set_option maxRecDepth 20000 in
theorem ggX2_countSeenOf_X6_columnOf : GoodIn wsX2_countSeenOf wsX6_columnOf := goodIn_r _ [12, 13, 38, 39, 40, 41, 42, 43, 44, 45, 46, 47, 48] (by decide +kernel) (by decide +kernel)
set_option maxRecDepth 20000 in
theorem gX2_countSeenOf_X6_columnOf : GoodIn wsX2_countSeenOf (wsV RX2 54 RX6 yX6_columnOf wsX6_columnOf) := goodIn_app (goodIn_of _ (by decide +kernel)) ggX2_countSeenOf_X6_columnOf
theorem dX2_countSeenOf_0 : decode cX2_countSeenOf 0 = .ok (.aload_n 0, 1) := by decide +kernel
theorem dX2_countSeenOf_1 : decode cX2_countSeenOf 1 = .ok (.iload_n 1, 1) := by decide +kernel
theorem dX2_countSeenOf_2 : decode cX2_countSeenOf 2 = .ok (.invokevirtual 47, 3) := by decide +kernel
theorem dX2_countSeenOf_5 : decode cX2_countSeenOf 5 = .ok (.ifCond .eq 7, 3) := by decide +kernel
theorem dX2_countSeenOf_8 : decode cX2_countSeenOf 8 = .ok (.iconst 1, 1) := by decide +kernel
theorem dX2_countSeenOf_9 : decode cX2_countSeenOf 9 = .ok (.goto 4, 3) := by decide +kernel
theorem dX2_countSeenOf_12 : decode cX2_countSeenOf 12 = .ok (.iconst 0, 1) := by decide +kernel
theorem dX2_countSeenOf_13 : decode cX2_countSeenOf 13 = .ok (.istore_n 2, 1) := by decide +kernel
theorem dX2_countSeenOf_14 : decode cX2_countSeenOf 14 = .ok (.iload_n 2, 1) := by decide +kernel
theorem dX2_countSeenOf_15 : decode cX2_countSeenOf 15 = .ok (.aload_n 0, 1) := by decide +kernel
theorem dX2_countSeenOf_16 : decode cX2_countSeenOf 16 = .ok (.iload_n 1, 1) := by decide +kernel
theorem dX2_countSeenOf_17 : decode cX2_countSeenOf 17 = .ok (.invokevirtual 51, 3) := by decide +kernel
theorem dX2_countSeenOf_20 : decode cX2_countSeenOf 20 = .ok (.ifCond .eq 7, 3) := by decide +kernel
theorem dX2_countSeenOf_23 : decode cX2_countSeenOf 23 = .ok (.iconst 1, 1) := by decide +kernel
theorem dX2_countSeenOf_24 : decode cX2_countSeenOf 24 = .ok (.goto 4, 3) := by decide +kernel
theorem dX2_countSeenOf_27 : decode cX2_countSeenOf 27 = .ok (.iconst 0, 1) := by decide +kernel
theorem dX2_countSeenOf_28 : decode cX2_countSeenOf 28 = .ok (.iadd, 1) := by decide +kernel
theorem dX2_countSeenOf_29 : decode cX2_countSeenOf 29 = .ok (.istore_n 2, 1) := by decide +kernel
theorem dX2_countSeenOf_30 : decode cX2_countSeenOf 30 = .ok (.iload_n 2, 1) := by decide +kernel
theorem dX2_countSeenOf_31 : decode cX2_countSeenOf 31 = .ok (.aload_n 0, 1) := by decide +kernel
theorem dX2_countSeenOf_32 : decode cX2_countSeenOf 32 = .ok (.getfield 18, 3) := by decide +kernel
theorem dX2_countSeenOf_35 : decode cX2_countSeenOf 35 = .ok (.iload_n 1, 1) := by decide +kernel
theorem dX2_countSeenOf_36 : decode cX2_countSeenOf 36 = .ok (.invokevirtual 54, 3) := by decide +kernel
theorem dX2_countSeenOf_39 : decode cX2_countSeenOf 39 = .ok (.ifCond .le 17, 3) := by decide +kernel
theorem dX2_countSeenOf_42 : decode cX2_countSeenOf 42 = .ok (.aload_n 0, 1) := by decide +kernel
theorem dX2_countSeenOf_43 : decode cX2_countSeenOf 43 = .ok (.iload_n 1, 1) := by decide +kernel
theorem dX2_countSeenOf_44 : decode cX2_countSeenOf 44 = .ok (.iconst 1, 1) := by decide +kernel
theorem dX2_countSeenOf_45 : decode cX2_countSeenOf 45 = .ok (.isub, 1) := by decide +kernel
theorem dX2_countSeenOf_46 : decode cX2_countSeenOf 46 = .ok (.invokevirtual 47, 3) := by decide +kernel
theorem dX2_countSeenOf_49 : decode cX2_countSeenOf 49 = .ok (.ifCond .eq 7, 3) := by decide +kernel
theorem dX2_countSeenOf_52 : decode cX2_countSeenOf 52 = .ok (.iconst 1, 1) := by decide +kernel
theorem dX2_countSeenOf_53 : decode cX2_countSeenOf 53 = .ok (.goto 4, 3) := by decide +kernel
theorem dX2_countSeenOf_56 : decode cX2_countSeenOf 56 = .ok (.iconst 0, 1) := by decide +kernel
theorem dX2_countSeenOf_57 : decode cX2_countSeenOf 57 = .ok (.iadd, 1) := by decide +kernel
theorem dX2_countSeenOf_58 : decode cX2_countSeenOf 58 = .ok (.istore_n 2, 1) := by decide +kernel
theorem dX2_countSeenOf_59 : decode cX2_countSeenOf 59 = .ok (.iload_n 2, 1) := by decide +kernel
theorem dX2_countSeenOf_60 : decode cX2_countSeenOf 60 = .ok (.iload_n 1, 1) := by decide +kernel
theorem dX2_countSeenOf_61 : decode cX2_countSeenOf 61 = .ok (.aload_n 0, 1) := by decide +kernel
theorem dX2_countSeenOf_62 : decode cX2_countSeenOf 62 = .ok (.getfield 18, 3) := by decide +kernel
theorem dX2_countSeenOf_65 : decode cX2_countSeenOf 65 = .ok (.getfield 58, 3) := by decide +kernel
theorem dX2_countSeenOf_68 : decode cX2_countSeenOf 68 = .ok (.if_icmp .lt 23, 3) := by decide +kernel
theorem dX2_countSeenOf_71 : decode cX2_countSeenOf 71 = .ok (.aload_n 0, 1) := by decide +kernel
theorem dX2_countSeenOf_72 : decode cX2_countSeenOf 72 = .ok (.iload_n 1, 1) := by decide +kernel
theorem dX2_countSeenOf_73 : decode cX2_countSeenOf 73 = .ok (.aload_n 0, 1) := by decide +kernel
theorem dX2_countSeenOf_74 : decode cX2_countSeenOf 74 = .ok (.getfield 18, 3) := by decide +kernel
theorem dX2_countSeenOf_77 : decode cX2_countSeenOf 77 = .ok (.getfield 58, 3) := by decide +kernel
theorem dX2_countSeenOf_80 : decode cX2_countSeenOf 80 = .ok (.isub, 1) := by decide +kernel
theorem dX2_countSeenOf_81 : decode cX2_countSeenOf 81 = .ok (.invokevirtual 51, 3) := by decide +kernel
theorem dX2_countSeenOf_84 : decode cX2_countSeenOf 84 = .ok (.ifCond .eq 7, 3) := by decide +kernel
theorem dX2_countSeenOf_87 : decode cX2_countSeenOf 87 = .ok (.iconst 1, 1) := by decide +kernel
theorem dX2_countSeenOf_88 : decode cX2_countSeenOf 88 = .ok (.goto 4, 3) := by decide +kernel
theorem dX2_countSeenOf_91 : decode cX2_countSeenOf 91 = .ok (.iconst 0, 1) := by decide +kernel
theorem dX2_countSeenOf_92 : decode cX2_countSeenOf 92 = .ok (.iadd, 1) := by decide +kernel
theorem dX2_countSeenOf_93 : decode cX2_countSeenOf 93 = .ok (.istore_n 2, 1) := by decide +kernel
theorem dX2_countSeenOf_94 : decode cX2_countSeenOf 94 = .ok (.iload_n 2, 1) := by decide +kernel
theorem dX2_countSeenOf_95 : decode cX2_countSeenOf 95 = .ok (.ireturn, 1) := by decide +kernel
set_option maxRecDepth 20000 in
theorem ggX2_isAnySeen_X2_isSeenToRight : GoodIn wsX2_isAnySeen wsX2_isSeenToRight := goodIn_r _ [7, 1, 8, 9, 10, 11, 12, 13, 14, 15, 16, 17, 6, 18, 19, 20, 21, 22, 23, 24, 25, 26, 27, 28, 29, 30, 35, 36, 37, 38, 39, 40, 41, 42, 43, 44, 45, 46, 47, 48] (by decide +kernel) (by decide +kernel)
set_option maxRecDepth 20000 in
theorem gX2_isAnySeen_X2_isSeenToRight : GoodIn wsX2_isAnySeen (wsV RX2 47 RX2 yX2_isSeenToRight wsX2_isSeenToRight) := goodIn_app (goodIn_of _ (by decide +kernel)) ggX2_isAnySeen_X2_isSeenToRight
set_option maxRecDepth 20000 in
theorem ggX2_isAnySeen_X2_isSeenBelow : GoodIn wsX2_isAnySeen wsX2_isSeenBelow := goodIn_r _ [34, 1, 8, 2, 15, 16, 17, 6, 18, 19, 20, 21, 22, 23, 24, 25, 26, 27, 28, 12, 29, 30, 35, 36, 37, 38, 39, 40, 41, 42, 43, 44, 45, 46, 47, 48] (by decide +kernel) (by decide +kernel)
set_option maxRecDepth 20000 in
theorem gX2_isAnySeen_X2_isSeenBelow : GoodIn wsX2_isAnySeen (wsV RX2 51 RX2 yX2_isSeenBelow wsX2_isSeenBelow) := goodIn_app (goodIn_of _ (by decide +kernel)) ggX2_isAnySeen_X2_isSeenBelow
theorem dX2_isAnySeen_0 : decode cX2_isAnySeen 0 = .ok (.iconst 0, 1) := by decide +kernel
theorem dX2_isAnySeen_1 : decode cX2_isAnySeen 1 = .ok (.istore_n 1, 1) := by decide +kernel
theorem dX2_isAnySeen_2 : decode cX2_isAnySeen 2 = .ok (.iload_n 1, 1) := by decide +kernel
theorem dX2_isAnySeen_3 : decode cX2_isAnySeen 3 = .ok (.aload_n 0, 1) := by decide +kernel
theorem dX2_isAnySeen_4 : decode cX2_isAnySeen 4 = .ok (.getfield 18, 3) := by decide +kernel
theorem dX2_isAnySeen_7 : decode cX2_isAnySeen 7 = .ok (.getfield 22, 3) := by decide +kernel
theorem dX2_isAnySeen_10 : decode cX2_isAnySeen 10 = .ok (.if_icmp .ge 27, 3) := by decide +kernel
theorem dX2_isAnySeen_13 : decode cX2_isAnySeen 13 = .ok (.aload_n 0, 1) := by decide +kernel
theorem dX2_isAnySeen_14 : decode cX2_isAnySeen 14 = .ok (.iload_n 1, 1) := by decide +kernel
theorem dX2_isAnySeen_15 : decode cX2_isAnySeen 15 = .ok (.invokevirtual 47, 3) := by decide +kernel
theorem dX2_isAnySeen_18 : decode cX2_isAnySeen 18 = .ok (.ifCond .ne 11, 3) := by decide +kernel
theorem dX2_isAnySeen_21 : decode cX2_isAnySeen 21 = .ok (.aload_n 0, 1) := by decide +kernel
theorem dX2_isAnySeen_22 : decode cX2_isAnySeen 22 = .ok (.iload_n 1, 1) := by decide +kernel
theorem dX2_isAnySeen_23 : decode cX2_isAnySeen 23 = .ok (.invokevirtual 51, 3) := by decide +kernel
theorem dX2_isAnySeen_26 : decode cX2_isAnySeen 26 = .ok (.ifCond .eq 5, 3) := by decide +kernel
theorem dX2_isAnySeen_29 : decode cX2_isAnySeen 29 = .ok (.iconst 1, 1) := by decide +kernel
theorem dX2_isAnySeen_30 : decode cX2_isAnySeen 30 = .ok (.ireturn, 1) := by decide +kernel
theorem dX2_isAnySeen_31 : decode cX2_isAnySeen 31 = .ok (.iinc 1 1, 3) := by decide +kernel
theorem dX2_isAnySeen_34 : decode cX2_isAnySeen 34 = .ok (.goto (-32), 3) := by decide +kernel
theorem dX2_isAnySeen_37 : decode cX2_isAnySeen 37 = .ok (.iconst 0, 1) := by decide +kernel
theorem dX2_isAnySeen_38 : decode cX2_isAnySeen 38 = .ok (.ireturn, 1) := by decide +kernel
set_option maxRecDepth 20000 in
theorem ggX2_isSeenToRight_X6_columnOf : GoodIn wsX2_isSeenToRight wsX6_columnOf := goodIn_r _ [7, 8, 29, 30, 31, 32, 33, 34, 35, 36, 37, 38, 39] (by decide +kernel) (by decide +kernel)
set_option maxRecDepth 20000 in
theorem gX2_isSeenToRight_X6_columnOf : GoodIn wsX2_isSeenToRight (wsV RX2 54 RX6 yX6_columnOf wsX6_columnOf) := goodIn_app (goodIn_of _ (by decide +kernel)) ggX2_isSeenToRight_X6_columnOf
set_option maxRecDepth 20000 in
theorem ggX2_isSeenToRight_X2_isSeenBetween : GoodIn wsX2_isSeenToRight wsX2_isSeenBetween := goodIn_r _ [13, 14, 1, 15, 16, 17, 18, 19, 20, 21, 22, 23, 6, 24, 25, 26, 27, 28, 29, 30, 31, 32, 33, 34, 35, 36, 37, 38, 39] (by decide +kernel) (by decide +kernel)
set_option maxRecDepth 20000 in
theorem gX2_isSeenToRight_X2_isSeenBetween : GoodIn wsX2_isSeenToRight (wsV RX2 61 RX2 yX2_isSeenBetween wsX2_isSeenBetween) := goodIn_app (goodIn_of _ (by decide +kernel)) ggX2_isSeenToRight_X2_isSeenBetween
theorem dX2_isSeenToRight_0 : decode cX2_isSeenToRight 0 = .ok (.aload_n 0, 1) := by decide +kernel
theorem dX2_isSeenToRight_1 : decode cX2_isSeenToRight 1 = .ok (.getfield 18, 3) := by decide +kernel
theorem dX2_isSeenToRight_4 : decode cX2_isSeenToRight 4 = .ok (.iload_n 1, 1) := by decide +kernel
theorem dX2_isSeenToRight_5 : decode cX2_isSeenToRight 5 = .ok (.invokevirtual 54, 3) := by decide +kernel
theorem dX2_isSeenToRight_8 : decode cX2_isSeenToRight 8 = .ok (.iconst 1, 1) := by decide +kernel
theorem dX2_isSeenToRight_9 : decode cX2_isSeenToRight 9 = .ok (.iadd, 1) := by decide +kernel
theorem dX2_isSeenToRight_10 : decode cX2_isSeenToRight 10 = .ok (.aload_n 0, 1) := by decide +kernel
theorem dX2_isSeenToRight_11 : decode cX2_isSeenToRight 11 = .ok (.getfield 18, 3) := by decide +kernel
theorem dX2_isSeenToRight_14 : decode cX2_isSeenToRight 14 = .ok (.getfield 58, 3) := by decide +kernel
theorem dX2_isSeenToRight_17 : decode cX2_isSeenToRight 17 = .ok (.if_icmp .ge 18, 3) := by decide +kernel
theorem dX2_isSeenToRight_20 : decode cX2_isSeenToRight 20 = .ok (.aload_n 0, 1) := by decide +kernel
theorem dX2_isSeenToRight_21 : decode cX2_isSeenToRight 21 = .ok (.iload_n 1, 1) := by decide +kernel
theorem dX2_isSeenToRight_22 : decode cX2_isSeenToRight 22 = .ok (.iload_n 1, 1) := by decide +kernel
theorem dX2_isSeenToRight_23 : decode cX2_isSeenToRight 23 = .ok (.iconst 1, 1) := by decide +kernel
theorem dX2_isSeenToRight_24 : decode cX2_isSeenToRight 24 = .ok (.iadd, 1) := by decide +kernel
theorem dX2_isSeenToRight_25 : decode cX2_isSeenToRight 25 = .ok (.invokevirtual 61, 3) := by decide +kernel
theorem dX2_isSeenToRight_28 : decode cX2_isSeenToRight 28 = .ok (.ifCond .eq 7, 3) := by decide +kernel
theorem dX2_isSeenToRight_31 : decode cX2_isSeenToRight 31 = .ok (.iconst 1, 1) := by decide +kernel
theorem dX2_isSeenToRight_32 : decode cX2_isSeenToRight 32 = .ok (.goto 4, 3) := by decide +kernel
theorem dX2_isSeenToRight_35 : decode cX2_isSeenToRight 35 = .ok (.iconst 0, 1) := by decide +kernel
theorem dX2_isSeenToRight_36 : decode cX2_isSeenToRight 36 = .ok (.ireturn, 1) := by decide +kernel
set_option maxRecDepth 20000 in
theorem ggX2_isSeenBelow_X2_isSeenBetween : GoodIn wsX2_isSeenBelow wsX2_isSeenBetween := goodIn_r _ [8, 9, 1, 10, 11, 12, 13, 14, 15, 16, 17, 18, 19, 20, 21, 22, 23, 24, 25, 26, 27, 28, 29, 30, 31, 32, 33, 34, 35] (by decide +kernel) (by decide +kernel)
set_option maxRecDepth 20000 in
theorem gX2_isSeenBelow_X2_isSeenBetween : GoodIn wsX2_isSeenBelow (wsV RX2 61 RX2 yX2_isSeenBetween wsX2_isSeenBetween) := goodIn_app (goodIn_of _ (by decide +kernel)) ggX2_isSeenBelow_X2_isSeenBetween
theorem dX2_isSeenBelow_0 : decode cX2_isSeenBelow 0 = .ok (.iload_n 1, 1) := by decide +kernel
theorem dX2_isSeenBelow_1 : decode cX2_isSeenBelow 1 = .ok (.aload_n 0, 1) := by decide +kernel
theorem dX2_isSeenBelow_2 : decode cX2_isSeenBelow 2 = .ok (.getfield 18, 3) := by decide +kernel
theorem dX2_isSeenBelow_5 : decode cX2_isSeenBelow 5 = .ok (.getfield 58, 3) := by decide +kernel
theorem dX2_isSeenBelow_8 : decode cX2_isSeenBelow 8 = .ok (.iadd, 1) := by decide +kernel
theorem dX2_isSeenBelow_9 : decode cX2_isSeenBelow 9 = .ok (.aload_n 0, 1) := by decide +kernel
theorem dX2_isSeenBelow_10 : decode cX2_isSeenBelow 10 = .ok (.getfield 18, 3) := by decide +kernel
theorem dX2_isSeenBelow_13 : decode cX2_isSeenBelow 13 = .ok (.getfield 22, 3) := by decide +kernel
theorem dX2_isSeenBelow_16 : decode cX2_isSeenBelow 16 = .ok (.if_icmp .ge 24, 3) := by decide +kernel
theorem dX2_isSeenBelow_19 : decode cX2_isSeenBelow 19 = .ok (.aload_n 0, 1) := by decide +kernel
theorem dX2_isSeenBelow_20 : decode cX2_isSeenBelow 20 = .ok (.iload_n 1, 1) := by decide +kernel
theorem dX2_isSeenBelow_21 : decode cX2_isSeenBelow 21 = .ok (.iload_n 1, 1) := by decide +kernel
theorem dX2_isSeenBelow_22 : decode cX2_isSeenBelow 22 = .ok (.aload_n 0, 1) := by decide +kernel
theorem dX2_isSeenBelow_23 : decode cX2_isSeenBelow 23 = .ok (.getfield 18, 3) := by decide +kernel
theorem dX2_isSeenBelow_26 : decode cX2_isSeenBelow 26 = .ok (.getfield 58, 3) := by decide +kernel
theorem dX2_isSeenBelow_29 : decode cX2_isSeenBelow 29 = .ok (.iadd, 1) := by decide +kernel
theorem dX2_isSeenBelow_30 : decode cX2_isSeenBelow 30 = .ok (.invokevirtual 61, 3) := by decide +kernel
theorem dX2_isSeenBelow_33 : decode cX2_isSeenBelow 33 = .ok (.ifCond .eq 7, 3) := by decide +kernel
theorem dX2_isSeenBelow_36 : decode cX2_isSeenBelow 36 = .ok (.iconst 1, 1) := by decide +kernel
theorem dX2_isSeenBelow_37 : decode cX2_isSeenBelow 37 = .ok (.goto 4, 3) := by decide +kernel
theorem dX2_isSeenBelow_40 : decode cX2_isSeenBelow 40 = .ok (.iconst 0, 1) := by decide +kernel
theorem dX2_isSeenBelow_41 : decode cX2_isSeenBelow 41 = .ok (.ireturn, 1) := by decide +kernel
set_option maxRecDepth 20000 in
theorem ggX2_isSeenBetween_X6_views : GoodIn wsX2_isSeenBetween wsX6_views := goodIn_r _ [13, 14, 18, 19, 20, 21, 22, 23, 24, 25, 26, 27, 28] (by decide +kernel) (by decide +kernel)
set_option maxRecDepth 20000 in
theorem gX2_isSeenBetween_X6_views : GoodIn wsX2_isSeenBetween (wsV RX2 28 RX6 yX6_views wsX6_views) := goodIn_app (goodIn_of _ (by decide +kernel)) ggX2_isSeenBetween_X6_views
theorem dX2_isSeenBetween_0 : decode cX2_isSeenBetween 0 = .ok (.aload_n 0, 1) := by decide +kernel
theorem dX2_isSeenBetween_1 : decode cX2_isSeenBetween 1 = .ok (.getfield 15, 3) := by decide +kernel
theorem dX2_isSeenBetween_4 : decode cX2_isSeenBetween 4 = .ok (.iload_n 1, 1) := by decide +kernel
theorem dX2_isSeenBetween_5 : decode cX2_isSeenBetween 5 = .ok (.iaload, 1) := by decide +kernel
theorem dX2_isSeenBetween_6 : decode cX2_isSeenBetween 6 = .ok (.bipush 8, 2) := by decide +kernel
theorem dX2_isSeenBetween_8 : decode cX2_isSeenBetween 8 = .ok (.imul, 1) := by decide +kernel
theorem dX2_isSeenBetween_9 : decode cX2_isSeenBetween 9 = .ok (.istore_n 3, 1) := by decide +kernel
theorem dX2_isSeenBetween_10 : decode cX2_isSeenBetween 10 = .ok (.aload_n 0, 1) := by decide +kernel
theorem dX2_isSeenBetween_11 : decode cX2_isSeenBetween 11 = .ok (.getfield 15, 3) := by decide +kernel
theorem dX2_isSeenBetween_14 : decode cX2_isSeenBetween 14 = .ok (.iload_n 2, 1) := by decide +kernel
theorem dX2_isSeenBetween_15 : decode cX2_isSeenBetween 15 = .ok (.iaload, 1) := by decide +kernel
theorem dX2_isSeenBetween_16 : decode cX2_isSeenBetween 16 = .ok (.bipush 8, 2) := by decide +kernel
theorem dX2_isSeenBetween_18 : decode cX2_isSeenBetween 18 = .ok (.imul, 1) := by decide +kernel
theorem dX2_isSeenBetween_19 : decode cX2_isSeenBetween 19 = .ok (.istore 4, 2) := by decide +kernel
theorem dX2_isSeenBetween_21 : decode cX2_isSeenBetween 21 = .ok (.iconst 0, 1) := by decide +kernel
theorem dX2_isSeenBetween_22 : decode cX2_isSeenBetween 22 = .ok (.istore 5, 2) := by decide +kernel
theorem dX2_isSeenBetween_24 : decode cX2_isSeenBetween 24 = .ok (.iload 5, 2) := by decide +kernel
theorem dX2_isSeenBetween_26 : decode cX2_isSeenBetween 26 = .ok (.aload_n 0, 1) := by decide +kernel
theorem dX2_isSeenBetween_27 : decode cX2_isSeenBetween 27 = .ok (.getfield 18, 3) := by decide +kernel
theorem dX2_isSeenBetween_30 : decode cX2_isSeenBetween 30 = .ok (.invokevirtual 28, 3) := by decide +kernel
theorem dX2_isSeenBetween_33 : decode cX2_isSeenBetween 33 = .ok (.if_icmp .ge 44, 3) := by decide +kernel
theorem dX2_isSeenBetween_36 : decode cX2_isSeenBetween 36 = .ok (.aload_n 0, 1) := by decide +kernel
theorem dX2_isSeenBetween_37 : decode cX2_isSeenBetween 37 = .ok (.getfield 9, 3) := by decide +kernel
theorem dX2_isSeenBetween_40 : decode cX2_isSeenBetween 40 = .ok (.iload_n 3, 1) := by decide +kernel
theorem dX2_isSeenBetween_41 : decode cX2_isSeenBetween 41 = .ok (.iload 5, 2) := by decide +kernel
theorem dX2_isSeenBetween_43 : decode cX2_isSeenBetween 43 = .ok (.iadd, 1) := by decide +kernel
theorem dX2_isSeenBetween_44 : decode cX2_isSeenBetween 44 = .ok (.iaload, 1) := by decide +kernel
theorem dX2_isSeenBetween_45 : decode cX2_isSeenBetween 45 = .ok (.aload_n 0, 1) := by decide +kernel
theorem dX2_isSeenBetween_46 : decode cX2_isSeenBetween 46 = .ok (.getfield 9, 3) := by decide +kernel
theorem dX2_isSeenBetween_49 : decode cX2_isSeenBetween 49 = .ok (.iload 4, 2) := by decide +kernel
theorem dX2_isSeenBetween_51 : decode cX2_isSeenBetween 51 = .ok (.iload 5, 2) := by decide +kernel
theorem dX2_isSeenBetween_53 : decode cX2_isSeenBetween 53 = .ok (.iadd, 1) := by decide +kernel
theorem dX2_isSeenBetween_54 : decode cX2_isSeenBetween 54 = .ok (.iaload, 1) := by decide +kernel
theorem dX2_isSeenBetween_55 : decode cX2_isSeenBetween 55 = .ok (.isub, 1) := by decide +kernel
theorem dX2_isSeenBetween_56 : decode cX2_isSeenBetween 56 = .ok (.invokestatic 65, 3) := by decide +kernel
theorem dX2_isSeenBetween_59 : decode cX2_isSeenBetween 59 = .ok (.aload_n 0, 1) := by decide +kernel
theorem dX2_isSeenBetween_60 : decode cX2_isSeenBetween 60 = .ok (.getfield 18, 3) := by decide +kernel
theorem dX2_isSeenBetween_63 : decode cX2_isSeenBetween 63 = .ok (.getfield 70, 3) := by decide +kernel
theorem dX2_isSeenBetween_66 : decode cX2_isSeenBetween 66 = .ok (.if_icmp .lt 5, 3) := by decide +kernel
theorem dX2_isSeenBetween_69 : decode cX2_isSeenBetween 69 = .ok (.iconst 1, 1) := by decide +kernel
theorem dX2_isSeenBetween_70 : decode cX2_isSeenBetween 70 = .ok (.ireturn, 1) := by decide +kernel
theorem dX2_isSeenBetween_71 : decode cX2_isSeenBetween 71 = .ok (.iinc 5 1, 3) := by decide +kernel
theorem dX2_isSeenBetween_74 : decode cX2_isSeenBetween 74 = .ok (.goto (-50), 3) := by decide +kernel
theorem dX2_isSeenBetween_77 : decode cX2_isSeenBetween 77 = .ok (.iconst 0, 1) := by decide +kernel
theorem dX2_isSeenBetween_78 : decode cX2_isSeenBetween 78 = .ok (.ireturn, 1) := by decide +kernel
set_option maxRecDepth 20000 in
theorem ggX3_init_X1_init : GoodIn wsX3_init wsX1_init := goodIn_r _ [14, 15, 2, 3, 4, 16, 24, 25] (by decide +kernel) (by decide +kernel)
set_option maxRecDepth 20000 in
theorem gX3_init_X1_init_n17 : GoodIn wsX3_init (wsX1_init) := ggX3_init_X1_init
theorem dX3_init_0 : decode cX3_init 0 = .ok (.aload_n 0, 1) := by decide +kernel
theorem dX3_init_1 : decode cX3_init 1 = .ok (.invokespecial 3, 3) := by decide +kernel
theorem dX3_init_4 : decode cX3_init 4 = .ok (.aload_n 0, 1) := by decide +kernel
theorem dX3_init_5 : decode cX3_init 5 = .ok (.iconst 4, 1) := by decide +kernel
theorem dX3_init_6 : decode cX3_init 6 = .ok (.newarray .int, 2) := by decide +kernel
theorem dX3_init_8 : decode cX3_init 8 = .ok (.putfield 9, 3) := by decide +kernel
theorem dX3_init_11 : decode cX3_init 11 = .ok (.aload_n 0, 1) := by decide +kernel
theorem dX3_init_12 : decode cX3_init 12 = .ok (.new 15, 3) := by decide +kernel
theorem dX3_init_15 : decode cX3_init 15 = .ok (.dup, 1) := by decide +kernel
theorem dX3_init_16 : decode cX3_init 16 = .ok (.invokespecial 17, 3) := by decide +kernel
theorem dX3_init_19 : decode cX3_init 19 = .ok (.putfield 18, 3) := by decide +kernel
theorem dX3_init_22 : decode cX3_init 22 = .ok (.aload_n 0, 1) := by decide +kernel
theorem dX3_init_23 : decode cX3_init 23 = .ok (.bipush 8, 2) := by decide +kernel
theorem dX3_init_25 : decode cX3_init 25 = .ok (.newarray .int, 2) := by decide +kernel
theorem dX3_init_27 : decode cX3_init 27 = .ok (.putfield 22, 3) := by decide +kernel
theorem dX3_init_30 : decode cX3_init 30 = .ok (.aload_n 0, 1) := by decide +kernel
theorem dX3_init_31 : decode cX3_init 31 = .ok (.iconst 4, 1) := by decide +kernel
theorem dX3_init_32 : decode cX3_init 32 = .ok (.newarray .int, 2) := by decide +kernel
theorem dX3_init_34 : decode cX3_init 34 = .ok (.putfield 25, 3) := by decide +kernel
theorem dX3_init_37 : decode cX3_init 37 = .ok (.aload_n 0, 1) := by decide +kernel
theorem dX3_init_38 : decode cX3_init 38 = .ok (.aload_n 1, 1) := by decide +kernel
theorem dX3_init_39 : decode cX3_init 39 = .ok (.putfield 28, 3) := by decide +kernel
theorem dX3_init_42 : decode cX3_init 42 = .ok (.return_, 1) := by decide +kernel
theorem dX3_pour_0 : decode cX3_pour 0 = .ok (.aload_n 0, 1) := by decide +kernel
theorem dX3_pour_1 : decode cX3_pour 1 = .ok (.getfield 9, 3) := by decide +kernel
theorem dX3_pour_4 : decode cX3_pour 4 = .ok (.iconst 0, 1) := by decide +kernel
theorem dX3_pour_5 : decode cX3_pour 5 = .ok (.iload_n 1, 1) := by decide +kernel
theorem dX3_pour_6 : decode cX3_pour 6 = .ok (.iastore, 1) := by decide +kernel
theorem dX3_pour_7 : decode cX3_pour 7 = .ok (.aload_n 0, 1) := by decide +kernel
theorem dX3_pour_8 : decode cX3_pour 8 = .ok (.getfield 9, 3) := by decide +kernel
theorem dX3_pour_11 : decode cX3_pour 11 = .ok (.iconst 1, 1) := by decide +kernel
theorem dX3_pour_12 : decode cX3_pour 12 = .ok (.iload_n 2, 1) := by decide +kernel
theorem dX3_pour_13 : decode cX3_pour 13 = .ok (.iastore, 1) := by decide +kernel
theorem dX3_pour_14 : decode cX3_pour 14 = .ok (.aload_n 0, 1) := by decide +kernel
theorem dX3_pour_15 : decode cX3_pour 15 = .ok (.getfield 9, 3) := by decide +kernel
theorem dX3_pour_18 : decode cX3_pour 18 = .ok (.iconst 2, 1) := by decide +kernel
theorem dX3_pour_19 : decode cX3_pour 19 = .ok (.iload_n 3, 1) := by decide +kernel
theorem dX3_pour_20 : decode cX3_pour 20 = .ok (.iastore, 1) := by decide +kernel
theorem dX3_pour_21 : decode cX3_pour 21 = .ok (.aload_n 0, 1) := by decide +kernel
theorem dX3_pour_22 : decode cX3_pour 22 = .ok (.getfield 9, 3) := by decide +kernel
theorem dX3_pour_25 : decode cX3_pour 25 = .ok (.iconst 3, 1) := by decide +kernel
theorem dX3_pour_26 : decode cX3_pour 26 = .ok (.iload 4, 2) := by decide +kernel
theorem dX3_pour_28 : decode cX3_pour 28 = .ok (.iastore, 1) := by decide +kernel
theorem dX3_pour_29 : decode cX3_pour 29 = .ok (.return_, 1) := by decide +kernel
set_option maxRecDepth 20000 in
theorem ggX3_isMix_X7_isWithin : GoodIn wsX3_isMix wsX7_isWithin := goodIn_r _ [5] (by decide +kernel) (by decide +kernel)
set_option maxRecDepth 20000 in
theorem gX3_isMix_X7_isWithin_n32 : GoodIn wsX3_isMix (wsX7_isWithin) := ggX3_isMix_X7_isWithin
set_option maxRecDepth 20000 in
theorem ggX3_isMix_X6_hasCoat : GoodIn wsX3_isMix wsX6_hasCoat := goodIn_r _ [10, 11, 19, 20, 21, 22, 23, 24, 25, 26, 27, 28, 29] (by decide +kernel) (by decide +kernel)
set_option maxRecDepth 20000 in
theorem gX3_isMix_X6_hasCoat : GoodIn wsX3_isMix (wsV RX3 36 RX6 yX6_hasCoat wsX6_hasCoat) := goodIn_app (goodIn_of _ (by decide +kernel)) ggX3_isMix_X6_hasCoat
theorem dX3_isMix_0 : decode cX3_isMix 0 = .ok (.iconst 0, 1) := by decide +kernel
theorem dX3_isMix_1 : decode cX3_isMix 1 = .ok (.istore_n 1, 1) := by decide +kernel
theorem dX3_isMix_2 : decode cX3_isMix 2 = .ok (.iconst 0, 1) := by decide +kernel
theorem dX3_isMix_3 : decode cX3_isMix 3 = .ok (.istore_n 2, 1) := by decide +kernel
theorem dX3_isMix_4 : decode cX3_isMix 4 = .ok (.iload_n 2, 1) := by decide +kernel
theorem dX3_isMix_5 : decode cX3_isMix 5 = .ok (.iconst 4, 1) := by decide +kernel
theorem dX3_isMix_6 : decode cX3_isMix 6 = .ok (.if_icmp .ge 55, 3) := by decide +kernel
theorem dX3_isMix_9 : decode cX3_isMix 9 = .ok (.aload_n 0, 1) := by decide +kernel
theorem dX3_isMix_10 : decode cX3_isMix 10 = .ok (.getfield 9, 3) := by decide +kernel
theorem dX3_isMix_13 : decode cX3_isMix 13 = .ok (.iload_n 2, 1) := by decide +kernel
theorem dX3_isMix_14 : decode cX3_isMix 14 = .ok (.iaload, 1) := by decide +kernel
theorem dX3_isMix_15 : decode cX3_isMix 15 = .ok (.iconst 0, 1) := by decide +kernel
theorem dX3_isMix_16 : decode cX3_isMix 16 = .ok (.bipush 9, 2) := by decide +kernel
theorem dX3_isMix_18 : decode cX3_isMix 18 = .ok (.invokestatic 32, 3) := by decide +kernel
theorem dX3_isMix_21 : decode cX3_isMix 21 = .ok (.ifCond .eq 23, 3) := by decide +kernel
theorem dX3_isMix_24 : decode cX3_isMix 24 = .ok (.aload_n 0, 1) := by decide +kernel
theorem dX3_isMix_25 : decode cX3_isMix 25 = .ok (.getfield 9, 3) := by decide +kernel
theorem dX3_isMix_28 : decode cX3_isMix 28 = .ok (.iload_n 2, 1) := by decide +kernel
theorem dX3_isMix_29 : decode cX3_isMix 29 = .ok (.iaload, 1) := by decide +kernel
theorem dX3_isMix_30 : decode cX3_isMix 30 = .ok (.ifCond .le 16, 3) := by decide +kernel
theorem dX3_isMix_33 : decode cX3_isMix 33 = .ok (.aload_n 0, 1) := by decide +kernel
theorem dX3_isMix_34 : decode cX3_isMix 34 = .ok (.getfield 28, 3) := by decide +kernel
theorem dX3_isMix_37 : decode cX3_isMix 37 = .ok (.iload_n 2, 1) := by decide +kernel
theorem dX3_isMix_38 : decode cX3_isMix 38 = .ok (.invokevirtual 36, 3) := by decide +kernel
theorem dX3_isMix_41 : decode cX3_isMix 41 = .ok (.ifCond .ne 5, 3) := by decide +kernel
theorem dX3_isMix_44 : decode cX3_isMix 44 = .ok (.iconst 0, 1) := by decide +kernel
theorem dX3_isMix_45 : decode cX3_isMix 45 = .ok (.ireturn, 1) := by decide +kernel
theorem dX3_isMix_46 : decode cX3_isMix 46 = .ok (.iload_n 1, 1) := by decide +kernel
theorem dX3_isMix_47 : decode cX3_isMix 47 = .ok (.aload_n 0, 1) := by decide +kernel
theorem dX3_isMix_48 : decode cX3_isMix 48 = .ok (.getfield 9, 3) := by decide +kernel
theorem dX3_isMix_51 : decode cX3_isMix 51 = .ok (.iload_n 2, 1) := by decide +kernel
theorem dX3_isMix_52 : decode cX3_isMix 52 = .ok (.iaload, 1) := by decide +kernel
theorem dX3_isMix_53 : decode cX3_isMix 53 = .ok (.iadd, 1) := by decide +kernel
theorem dX3_isMix_54 : decode cX3_isMix 54 = .ok (.istore_n 1, 1) := by decide +kernel
theorem dX3_isMix_55 : decode cX3_isMix 55 = .ok (.iinc 2 1, 3) := by decide +kernel
theorem dX3_isMix_58 : decode cX3_isMix 58 = .ok (.goto (-54), 3) := by decide +kernel
theorem dX3_isMix_61 : decode cX3_isMix 61 = .ok (.iload_n 1, 1) := by decide +kernel
theorem dX3_isMix_62 : decode cX3_isMix 62 = .ok (.iconst 1, 1) := by decide +kernel
theorem dX3_isMix_63 : decode cX3_isMix 63 = .ok (.bipush 12, 2) := by decide +kernel
theorem dX3_isMix_65 : decode cX3_isMix 65 = .ok (.invokestatic 32, 3) := by decide +kernel
theorem dX3_isMix_68 : decode cX3_isMix 68 = .ok (.ireturn, 1) := by decide +kernel
theorem dX3_sumOfDrops_0 : decode cX3_sumOfDrops 0 = .ok (.aload_n 0, 1) := by decide +kernel
theorem dX3_sumOfDrops_1 : decode cX3_sumOfDrops 1 = .ok (.getfield 9, 3) := by decide +kernel
theorem dX3_sumOfDrops_4 : decode cX3_sumOfDrops 4 = .ok (.iconst 0, 1) := by decide +kernel
theorem dX3_sumOfDrops_5 : decode cX3_sumOfDrops 5 = .ok (.iaload, 1) := by decide +kernel
theorem dX3_sumOfDrops_6 : decode cX3_sumOfDrops 6 = .ok (.aload_n 0, 1) := by decide +kernel
theorem dX3_sumOfDrops_7 : decode cX3_sumOfDrops 7 = .ok (.getfield 9, 3) := by decide +kernel
theorem dX3_sumOfDrops_10 : decode cX3_sumOfDrops 10 = .ok (.iconst 1, 1) := by decide +kernel
theorem dX3_sumOfDrops_11 : decode cX3_sumOfDrops 11 = .ok (.iaload, 1) := by decide +kernel
theorem dX3_sumOfDrops_12 : decode cX3_sumOfDrops 12 = .ok (.iadd, 1) := by decide +kernel
theorem dX3_sumOfDrops_13 : decode cX3_sumOfDrops 13 = .ok (.aload_n 0, 1) := by decide +kernel
theorem dX3_sumOfDrops_14 : decode cX3_sumOfDrops 14 = .ok (.getfield 9, 3) := by decide +kernel
theorem dX3_sumOfDrops_17 : decode cX3_sumOfDrops 17 = .ok (.iconst 2, 1) := by decide +kernel
theorem dX3_sumOfDrops_18 : decode cX3_sumOfDrops 18 = .ok (.iaload, 1) := by decide +kernel
theorem dX3_sumOfDrops_19 : decode cX3_sumOfDrops 19 = .ok (.iadd, 1) := by decide +kernel
theorem dX3_sumOfDrops_20 : decode cX3_sumOfDrops 20 = .ok (.aload_n 0, 1) := by decide +kernel
theorem dX3_sumOfDrops_21 : decode cX3_sumOfDrops 21 = .ok (.getfield 9, 3) := by decide +kernel
theorem dX3_sumOfDrops_24 : decode cX3_sumOfDrops 24 = .ok (.iconst 3, 1) := by decide +kernel
theorem dX3_sumOfDrops_25 : decode cX3_sumOfDrops 25 = .ok (.iaload, 1) := by decide +kernel
theorem dX3_sumOfDrops_26 : decode cX3_sumOfDrops 26 = .ok (.iadd, 1) := by decide +kernel
theorem dX3_sumOfDrops_27 : decode cX3_sumOfDrops 27 = .ok (.ireturn, 1) := by decide +kernel
set_option maxRecDepth 20000 in
theorem ggX3_stir_X3_sumOfDrops : GoodIn wsX3_stir wsX3_sumOfDrops := goodIn_r _ [15, 5, 20, 21, 22, 23, 24, 25, 26] (by decide +kernel) (by decide +kernel)
set_option maxRecDepth 20000 in
theorem gX3_stir_X3_sumOfDrops : GoodIn wsX3_stir (wsV RX3 42 RX3 yX3_sumOfDrops wsX3_sumOfDrops) := goodIn_app (goodIn_of _ (by decide +kernel)) ggX3_stir_X3_sumOfDrops
set_option maxRecDepth 20000 in
theorem ggX3_stir_X3_leastInIt : GoodIn wsX3_stir wsX3_leastInIt := goodIn_r _ [19, 5, 20, 21, 22, 23, 24, 25, 26] (by decide +kernel) (by decide +kernel)
set_option maxRecDepth 20000 in
theorem gX3_stir_X3_leastInIt : GoodIn wsX3_stir (wsV RX3 59 RX3 yX3_leastInIt wsX3_leastInIt) := goodIn_app (goodIn_of _ (by decide +kernel)) ggX3_stir_X3_leastInIt
theorem dX3_stir_0 : decode cX3_stir 0 = .ok (.iconst 1, 1) := by decide +kernel
theorem dX3_stir_1 : decode cX3_stir 1 = .ok (.aload_n 0, 1) := by decide +kernel
theorem dX3_stir_2 : decode cX3_stir 2 = .ok (.invokevirtual 42, 3) := by decide +kernel
theorem dX3_stir_5 : decode cX3_stir 5 = .ok (.invokestatic 46, 3) := by decide +kernel
theorem dX3_stir_8 : decode cX3_stir 8 = .ok (.istore_n 1, 1) := by decide +kernel
theorem dX3_stir_9 : decode cX3_stir 9 = .ok (.iconst 0, 1) := by decide +kernel
theorem dX3_stir_10 : decode cX3_stir 10 = .ok (.istore_n 2, 1) := by decide +kernel
theorem dX3_stir_11 : decode cX3_stir 11 = .ok (.iload_n 2, 1) := by decide +kernel
theorem dX3_stir_12 : decode cX3_stir 12 = .ok (.iconst 3, 1) := by decide +kernel
theorem dX3_stir_13 : decode cX3_stir 13 = .ok (.if_icmp .ge 64, 3) := by decide +kernel
theorem dX3_stir_16 : decode cX3_stir 16 = .ok (.iconst 0, 1) := by decide +kernel
theorem dX3_stir_17 : decode cX3_stir 17 = .ok (.istore_n 3, 1) := by decide +kernel
theorem dX3_stir_18 : decode cX3_stir 18 = .ok (.iconst 0, 1) := by decide +kernel
theorem dX3_stir_19 : decode cX3_stir 19 = .ok (.istore 4, 2) := by decide +kernel
theorem dX3_stir_21 : decode cX3_stir 21 = .ok (.iload 4, 2) := by decide +kernel
theorem dX3_stir_23 : decode cX3_stir 23 = .ok (.iconst 4, 1) := by decide +kernel
theorem dX3_stir_24 : decode cX3_stir 24 = .ok (.if_icmp .ge 35, 3) := by decide +kernel
theorem dX3_stir_27 : decode cX3_stir 27 = .ok (.iload_n 3, 1) := by decide +kernel
theorem dX3_stir_28 : decode cX3_stir 28 = .ok (.aload_n 0, 1) := by decide +kernel
theorem dX3_stir_29 : decode cX3_stir 29 = .ok (.getfield 9, 3) := by decide +kernel
theorem dX3_stir_32 : decode cX3_stir 32 = .ok (.iload 4, 2) := by decide +kernel
theorem dX3_stir_34 : decode cX3_stir 34 = .ok (.iaload, 1) := by decide +kernel
theorem dX3_stir_35 : decode cX3_stir 35 = .ok (.aload_n 0, 1) := by decide +kernel
theorem dX3_stir_36 : decode cX3_stir 36 = .ok (.getfield 28, 3) := by decide +kernel
theorem dX3_stir_39 : decode cX3_stir 39 = .ok (.getfield 52, 3) := by decide +kernel
theorem dX3_stir_42 : decode cX3_stir 42 = .ok (.iload 4, 2) := by decide +kernel
theorem dX3_stir_44 : decode cX3_stir 44 = .ok (.aaload, 1) := by decide +kernel
theorem dX3_stir_45 : decode cX3_stir 45 = .ok (.getfield 56, 3) := by decide +kernel
theorem dX3_stir_48 : decode cX3_stir 48 = .ok (.iload_n 2, 1) := by decide +kernel
theorem dX3_stir_49 : decode cX3_stir 49 = .ok (.iaload, 1) := by decide +kernel
theorem dX3_stir_50 : decode cX3_stir 50 = .ok (.imul, 1) := by decide +kernel
theorem dX3_stir_51 : decode cX3_stir 51 = .ok (.iadd, 1) := by decide +kernel
theorem dX3_stir_52 : decode cX3_stir 52 = .ok (.istore_n 3, 1) := by decide +kernel
theorem dX3_stir_53 : decode cX3_stir 53 = .ok (.iinc 4 1, 3) := by decide +kernel
theorem dX3_stir_56 : decode cX3_stir 56 = .ok (.goto (-35), 3) := by decide +kernel
theorem dX3_stir_59 : decode cX3_stir 59 = .ok (.aload_n 0, 1) := by decide +kernel
theorem dX3_stir_60 : decode cX3_stir 60 = .ok (.getfield 18, 3) := by decide +kernel
theorem dX3_stir_63 : decode cX3_stir 63 = .ok (.getfield 56, 3) := by decide +kernel
theorem dX3_stir_66 : decode cX3_stir 66 = .ok (.iload_n 2, 1) := by decide +kernel
theorem dX3_stir_67 : decode cX3_stir 67 = .ok (.iload_n 3, 1) := by decide +kernel
theorem dX3_stir_68 : decode cX3_stir 68 = .ok (.iload_n 1, 1) := by decide +kernel
theorem dX3_stir_69 : decode cX3_stir 69 = .ok (.idiv, 1) := by decide +kernel
theorem dX3_stir_70 : decode cX3_stir 70 = .ok (.iastore, 1) := by decide +kernel
theorem dX3_stir_71 : decode cX3_stir 71 = .ok (.iinc 2 1, 3) := by decide +kernel
theorem dX3_stir_74 : decode cX3_stir 74 = .ok (.goto (-63), 3) := by decide +kernel
theorem dX3_stir_77 : decode cX3_stir 77 = .ok (.aload_n 0, 1) := by decide +kernel
theorem dX3_stir_78 : decode cX3_stir 78 = .ok (.getfield 18, 3) := by decide +kernel
theorem dX3_stir_81 : decode cX3_stir 81 = .ok (.aload_n 0, 1) := by decide +kernel
theorem dX3_stir_82 : decode cX3_stir 82 = .ok (.getfield 28, 3) := by decide +kernel
theorem dX3_stir_85 : decode cX3_stir 85 = .ok (.getfield 52, 3) := by decide +kernel
theorem dX3_stir_88 : decode cX3_stir 88 = .ok (.aload_n 0, 1) := by decide +kernel
theorem dX3_stir_89 : decode cX3_stir 89 = .ok (.invokevirtual 59, 3) := by decide +kernel
theorem dX3_stir_92 : decode cX3_stir 92 = .ok (.aaload, 1) := by decide +kernel
theorem dX3_stir_93 : decode cX3_stir 93 = .ok (.getfield 62, 3) := by decide +kernel
theorem dX3_stir_96 : decode cX3_stir 96 = .ok (.putfield 62, 3) := by decide +kernel
theorem dX3_stir_99 : decode cX3_stir 99 = .ok (.aload_n 0, 1) := by decide +kernel
theorem dX3_stir_100 : decode cX3_stir 100 = .ok (.getfield 18, 3) := by decide +kernel
theorem dX3_stir_103 : decode cX3_stir 103 = .ok (.areturn, 1) := by decide +kernel
theorem dX3_leastInIt_0 : decode cX3_leastInIt 0 = .ok (.iconst 0, 1) := by decide +kernel
theorem dX3_leastInIt_1 : decode cX3_leastInIt 1 = .ok (.istore_n 1, 1) := by decide +kernel
theorem dX3_leastInIt_2 : decode cX3_leastInIt 2 = .ok (.iload_n 1, 1) := by decide +kernel
theorem dX3_leastInIt_3 : decode cX3_leastInIt 3 = .ok (.iconst 4, 1) := by decide +kernel
theorem dX3_leastInIt_4 : decode cX3_leastInIt 4 = .ok (.if_icmp .ge 20, 3) := by decide +kernel
theorem dX3_leastInIt_7 : decode cX3_leastInIt 7 = .ok (.aload_n 0, 1) := by decide +kernel
theorem dX3_leastInIt_8 : decode cX3_leastInIt 8 = .ok (.getfield 9, 3) := by decide +kernel
theorem dX3_leastInIt_11 : decode cX3_leastInIt 11 = .ok (.iload_n 1, 1) := by decide +kernel
theorem dX3_leastInIt_12 : decode cX3_leastInIt 12 = .ok (.iaload, 1) := by decide +kernel
theorem dX3_leastInIt_13 : decode cX3_leastInIt 13 = .ok (.ifCond .le 5, 3) := by decide +kernel
theorem dX3_leastInIt_16 : decode cX3_leastInIt 16 = .ok (.iload_n 1, 1) := by decide +kernel
theorem dX3_leastInIt_17 : decode cX3_leastInIt 17 = .ok (.ireturn, 1) := by decide +kernel
theorem dX3_leastInIt_18 : decode cX3_leastInIt 18 = .ok (.iinc 1 1, 3) := by decide +kernel
theorem dX3_leastInIt_21 : decode cX3_leastInIt 21 = .ok (.goto (-19), 3) := by decide +kernel
theorem dX3_leastInIt_24 : decode cX3_leastInIt 24 = .ok (.iconst 0, 1) := by decide +kernel
theorem dX3_leastInIt_25 : decode cX3_leastInIt 25 = .ok (.ireturn, 1) := by decide +kernel
set_option maxRecDepth 20000 in
theorem ggX3_searchFor_X6_views : GoodIn wsX3_searchFor wsX6_views := goodIn_r _ [10, 11, 101, 102, 103, 104, 105, 106, 107, 108, 109, 110, 111] (by decide +kernel) (by decide +kernel)
set_option maxRecDepth 20000 in
theorem gX3_searchFor_X6_views : GoodIn wsX3_searchFor (wsV RX3 66 RX6 yX6_views wsX6_views) := goodIn_app (goodIn_of _ (by decide +kernel)) ggX3_searchFor_X6_views
set_option maxRecDepth 20000 in
theorem ggX3_searchFor_X6_lookOfCell : GoodIn wsX3_searchFor wsX6_lookOfCell := goodIn_r _ [15, 16, 17, 18, 19, 20, 21, 22, 23, 9, 24, 25, 26, 27, 28, 29, 30, 31, 32, 33, 34, 35, 36, 37, 38, 39, 40, 41, 101, 102, 103, 104, 105, 106, 107, 108, 109, 110, 111, 112, 113, 114, 115, 116, 117, 118] (by decide +kernel) (by decide +kernel)
set_option maxRecDepth 20000 in
theorem gX3_searchFor_X6_lookOfCell : GoodIn wsX3_searchFor (wsV RX3 69 RX6 yX6_lookOfCell wsX6_lookOfCell) := goodIn_app (goodIn_of _ (by decide +kernel)) ggX3_searchFor_X6_lookOfCell
set_option maxRecDepth 20000 in
theorem ggX3_searchFor_X3_pour : GoodIn wsX3_searchFor wsX3_pour := goodIn_r _ [46, 47, 94, 95, 96, 97, 98, 99, 100] (by decide +kernel) (by decide +kernel)
set_option maxRecDepth 20000 in
theorem gX3_searchFor_X3_pour : GoodIn wsX3_searchFor (wsV RX3 82 RX3 yX3_pour wsX3_pour) := goodIn_app (goodIn_of _ (by decide +kernel)) ggX3_searchFor_X3_pour
set_option maxRecDepth 20000 in
theorem ggX3_searchFor_X3_keepIfBetter : GoodIn wsX3_searchFor wsX3_keepIfBetter := goodIn_r _ [51, 4, 5, 47, 52, 53, 54, 55, 56, 57, 58, 59, 45, 60, 1, 61, 62, 63, 64, 65, 66, 9, 67, 68, 69, 70, 71, 72, 73, 34, 35, 36, 74, 75, 76, 77, 78, 79, 80, 81, 82, 83, 84, 85, 86, 87, 88, 89, 2, 90, 91, 92, 6, 7, 8, 10, 11, 93, 22, 23, 24, 25, 26, 27, 28, 29, 30, 31, 32, 33, 37, 38, 39, 40, 41, 94, 95, 96, 97, 98, 99, 100, 101, 102, 103, 104, 105, 106, 107, 108, 109, 110, 111, 117, 118] (by decide +kernel) (by decide +kernel)
set_option maxRecDepth 20000 in
theorem gX3_searchFor_X3_keepIfBetter : GoodIn wsX3_searchFor (wsV RX3 86 RX3 yX3_keepIfBetter wsX3_keepIfBetter) := goodIn_app (goodIn_of _ (by decide +kernel)) ggX3_searchFor_X3_keepIfBetter
theorem dX3_searchFor_0 : decode cX3_searchFor 0 = .ok (.iconst 0, 1) := by decide +kernel
theorem dX3_searchFor_1 : decode cX3_searchFor 1 = .ok (.istore_n 2, 1) := by decide +kernel
theorem dX3_searchFor_2 : decode cX3_searchFor 2 = .ok (.iload_n 2, 1) := by decide +kernel
theorem dX3_searchFor_3 : decode cX3_searchFor 3 = .ok (.aload_n 0, 1) := by decide +kernel
theorem dX3_searchFor_4 : decode cX3_searchFor 4 = .ok (.getfield 28, 3) := by decide +kernel
theorem dX3_searchFor_7 : decode cX3_searchFor 7 = .ok (.invokevirtual 66, 3) := by decide +kernel
theorem dX3_searchFor_10 : decode cX3_searchFor 10 = .ok (.if_icmp .ge 38, 3) := by decide +kernel
theorem dX3_searchFor_13 : decode cX3_searchFor 13 = .ok (.aload_n 0, 1) := by decide +kernel
theorem dX3_searchFor_14 : decode cX3_searchFor 14 = .ok (.getfield 22, 3) := by decide +kernel
theorem dX3_searchFor_17 : decode cX3_searchFor 17 = .ok (.iload_n 2, 1) := by decide +kernel
theorem dX3_searchFor_18 : decode cX3_searchFor 18 = .ok (.aload_n 0, 1) := by decide +kernel
theorem dX3_searchFor_19 : decode cX3_searchFor 19 = .ok (.getfield 28, 3) := by decide +kernel
theorem dX3_searchFor_22 : decode cX3_searchFor 22 = .ok (.iload_n 1, 1) := by decide +kernel
theorem dX3_searchFor_23 : decode cX3_searchFor 23 = .ok (.iload_n 2, 1) := by decide +kernel
theorem dX3_searchFor_24 : decode cX3_searchFor 24 = .ok (.iconst 2, 1) := by decide +kernel
theorem dX3_searchFor_25 : decode cX3_searchFor 25 = .ok (.idiv, 1) := by decide +kernel
theorem dX3_searchFor_26 : decode cX3_searchFor 26 = .ok (.iload_n 2, 1) := by decide +kernel
theorem dX3_searchFor_27 : decode cX3_searchFor 27 = .ok (.iconst 2, 1) := by decide +kernel
theorem dX3_searchFor_28 : decode cX3_searchFor 28 = .ok (.irem, 1) := by decide +kernel
theorem dX3_searchFor_29 : decode cX3_searchFor 29 = .ok (.iconst 1, 1) := by decide +kernel
theorem dX3_searchFor_30 : decode cX3_searchFor 30 = .ok (.if_icmp .ne 7, 3) := by decide +kernel
theorem dX3_searchFor_33 : decode cX3_searchFor 33 = .ok (.iconst 1, 1) := by decide +kernel
theorem dX3_searchFor_34 : decode cX3_searchFor 34 = .ok (.goto 4, 3) := by decide +kernel
theorem dX3_searchFor_37 : decode cX3_searchFor 37 = .ok (.iconst 0, 1) := by decide +kernel
theorem dX3_searchFor_38 : decode cX3_searchFor 38 = .ok (.invokevirtual 69, 3) := by decide +kernel
theorem dX3_searchFor_41 : decode cX3_searchFor 41 = .ok (.iastore, 1) := by decide +kernel
theorem dX3_searchFor_42 : decode cX3_searchFor 42 = .ok (.iinc 2 1, 3) := by decide +kernel
theorem dX3_searchFor_45 : decode cX3_searchFor 45 = .ok (.goto (-43), 3) := by decide +kernel
theorem dX3_searchFor_48 : decode cX3_searchFor 48 = .ok (.aload_n 0, 1) := by decide +kernel
theorem dX3_searchFor_49 : decode cX3_searchFor 49 = .ok (.ldc 75, 2) := by decide +kernel
theorem dX3_searchFor_51 : decode cX3_searchFor 51 = .ok (.putfield 76, 3) := by decide +kernel
theorem dX3_searchFor_54 : decode cX3_searchFor 54 = .ok (.aload_n 0, 1) := by decide +kernel
theorem dX3_searchFor_55 : decode cX3_searchFor 55 = .ok (.iconst 0, 1) := by decide +kernel
theorem dX3_searchFor_56 : decode cX3_searchFor 56 = .ok (.putfield 79, 3) := by decide +kernel
theorem dX3_searchFor_59 : decode cX3_searchFor 59 = .ok (.bipush 6, 2) := by decide +kernel
theorem dX3_searchFor_61 : decode cX3_searchFor 61 = .ok (.istore_n 2, 1) := by decide +kernel
theorem dX3_searchFor_62 : decode cX3_searchFor 62 = .ok (.iconst 0, 1) := by decide +kernel
theorem dX3_searchFor_63 : decode cX3_searchFor 63 = .ok (.istore_n 3, 1) := by decide +kernel
theorem dX3_searchFor_64 : decode cX3_searchFor 64 = .ok (.iload_n 3, 1) := by decide +kernel
theorem dX3_searchFor_65 : decode cX3_searchFor 65 = .ok (.iload_n 2, 1) := by decide +kernel
theorem dX3_searchFor_66 : decode cX3_searchFor 66 = .ok (.if_icmp .gt 84, 3) := by decide +kernel
theorem dX3_searchFor_69 : decode cX3_searchFor 69 = .ok (.iconst 0, 1) := by decide +kernel
theorem dX3_searchFor_70 : decode cX3_searchFor 70 = .ok (.istore 4, 2) := by decide +kernel
theorem dX3_searchFor_72 : decode cX3_searchFor 72 = .ok (.iload_n 3, 1) := by decide +kernel
theorem dX3_searchFor_73 : decode cX3_searchFor 73 = .ok (.iload 4, 2) := by decide +kernel
theorem dX3_searchFor_75 : decode cX3_searchFor 75 = .ok (.iadd, 1) := by decide +kernel
theorem dX3_searchFor_76 : decode cX3_searchFor 76 = .ok (.iload_n 2, 1) := by decide +kernel
theorem dX3_searchFor_77 : decode cX3_searchFor 77 = .ok (.if_icmp .gt 67, 3) := by decide +kernel
theorem dX3_searchFor_80 : decode cX3_searchFor 80 = .ok (.iconst 0, 1) := by decide +kernel
theorem dX3_searchFor_81 : decode cX3_searchFor 81 = .ok (.istore 5, 2) := by decide +kernel
theorem dX3_searchFor_83 : decode cX3_searchFor 83 = .ok (.iload_n 3, 1) := by decide +kernel
theorem dX3_searchFor_84 : decode cX3_searchFor 84 = .ok (.iload 4, 2) := by decide +kernel
theorem dX3_searchFor_86 : decode cX3_searchFor 86 = .ok (.iadd, 1) := by decide +kernel
theorem dX3_searchFor_87 : decode cX3_searchFor 87 = .ok (.iload 5, 2) := by decide +kernel
theorem dX3_searchFor_89 : decode cX3_searchFor 89 = .ok (.iadd, 1) := by decide +kernel
theorem dX3_searchFor_90 : decode cX3_searchFor 90 = .ok (.iload_n 2, 1) := by decide +kernel
theorem dX3_searchFor_91 : decode cX3_searchFor 91 = .ok (.if_icmp .gt 47, 3) := by decide +kernel
theorem dX3_searchFor_94 : decode cX3_searchFor 94 = .ok (.iconst 0, 1) := by decide +kernel
theorem dX3_searchFor_95 : decode cX3_searchFor 95 = .ok (.istore 6, 2) := by decide +kernel
theorem dX3_searchFor_97 : decode cX3_searchFor 97 = .ok (.iload_n 3, 1) := by decide +kernel
theorem dX3_searchFor_98 : decode cX3_searchFor 98 = .ok (.iload 4, 2) := by decide +kernel
theorem dX3_searchFor_100 : decode cX3_searchFor 100 = .ok (.iadd, 1) := by decide +kernel
theorem dX3_searchFor_101 : decode cX3_searchFor 101 = .ok (.iload 5, 2) := by decide +kernel
theorem dX3_searchFor_103 : decode cX3_searchFor 103 = .ok (.iadd, 1) := by decide +kernel
theorem dX3_searchFor_104 : decode cX3_searchFor 104 = .ok (.iload 6, 2) := by decide +kernel
theorem dX3_searchFor_106 : decode cX3_searchFor 106 = .ok (.iadd, 1) := by decide +kernel
theorem dX3_searchFor_107 : decode cX3_searchFor 107 = .ok (.iload_n 2, 1) := by decide +kernel
theorem dX3_searchFor_108 : decode cX3_searchFor 108 = .ok (.if_icmp .gt 24, 3) := by decide +kernel
theorem dX3_searchFor_111 : decode cX3_searchFor 111 = .ok (.aload_n 0, 1) := by decide +kernel
theorem dX3_searchFor_112 : decode cX3_searchFor 112 = .ok (.iload_n 3, 1) := by decide +kernel
theorem dX3_searchFor_113 : decode cX3_searchFor 113 = .ok (.iload 4, 2) := by decide +kernel
theorem dX3_searchFor_115 : decode cX3_searchFor 115 = .ok (.iload 5, 2) := by decide +kernel
theorem dX3_searchFor_117 : decode cX3_searchFor 117 = .ok (.iload 6, 2) := by decide +kernel
theorem dX3_searchFor_119 : decode cX3_searchFor 119 = .ok (.invokevirtual 82, 3) := by decide +kernel
theorem dX3_searchFor_122 : decode cX3_searchFor 122 = .ok (.aload_n 0, 1) := by decide +kernel
theorem dX3_searchFor_123 : decode cX3_searchFor 123 = .ok (.invokevirtual 86, 3) := by decide +kernel
theorem dX3_searchFor_126 : decode cX3_searchFor 126 = .ok (.iinc 6 1, 3) := by decide +kernel
theorem dX3_searchFor_129 : decode cX3_searchFor 129 = .ok (.goto (-32), 3) := by decide +kernel
theorem dX3_searchFor_132 : decode cX3_searchFor 132 = .ok (.iinc 5 1, 3) := by decide +kernel
theorem dX3_searchFor_135 : decode cX3_searchFor 135 = .ok (.goto (-52), 3) := by decide +kernel
theorem dX3_searchFor_138 : decode cX3_searchFor 138 = .ok (.iinc 4 1, 3) := by decide +kernel
theorem dX3_searchFor_141 : decode cX3_searchFor 141 = .ok (.goto (-69), 3) := by decide +kernel
theorem dX3_searchFor_144 : decode cX3_searchFor 144 = .ok (.iinc 3 1, 3) := by decide +kernel
theorem dX3_searchFor_147 : decode cX3_searchFor 147 = .ok (.goto (-83), 3) := by decide +kernel
theorem dX3_searchFor_150 : decode cX3_searchFor 150 = .ok (.return_, 1) := by decide +kernel
set_option maxRecDepth 20000 in
theorem ggX3_keepIfBetter_X3_isMix : GoodIn wsX3_keepIfBetter wsX3_isMix := goodIn_r _ [13, 3, 14, 15, 16, 17, 18, 19, 20, 21, 22, 23, 75, 76, 77, 78, 79, 80, 81, 82, 83, 84, 85, 86, 87, 88, 89, 90, 91, 92] (by decide +kernel) (by decide +kernel)
set_option maxRecDepth 20000 in
theorem gX3_keepIfBetter_X3_isMix : GoodIn wsX3_keepIfBetter (wsV RX3 89 RX3 yX3_isMix wsX3_isMix) := goodIn_app (goodIn_of _ (by decide +kernel)) ggX3_keepIfBetter_X3_isMix
set_option maxRecDepth 20000 in
theorem ggX3_keepIfBetter_X3_stir : GoodIn wsX3_keepIfBetter wsX3_stir := goodIn_r _ [27, 28, 29, 30, 31, 3, 14, 32, 33, 34, 35, 36, 37, 38, 12, 39, 40, 41, 42, 43, 75, 76, 77, 78, 79, 80, 81, 82, 83, 84, 85, 86, 87, 88, 89, 90, 91, 92, 93, 94] (by decide +kernel) (by decide +kernel)
set_option maxRecDepth 20000 in
theorem gX3_keepIfBetter_X3_stir : GoodIn wsX3_keepIfBetter (wsV RX3 93 RX3 yX3_stir wsX3_stir) := goodIn_app (goodIn_of _ (by decide +kernel)) ggX3_keepIfBetter_X3_stir
set_option maxRecDepth 20000 in
theorem ggX3_keepIfBetter_X3_sumOfDrops : GoodIn wsX3_keepIfBetter wsX3_sumOfDrops := goodIn_r _ [39, 3, 75, 76, 77, 78, 79, 80, 81] (by decide +kernel) (by decide +kernel)
set_option maxRecDepth 20000 in
theorem gX3_keepIfBetter_X3_sumOfDrops : GoodIn wsX3_keepIfBetter (wsV RX3 42 RX3 yX3_sumOfDrops wsX3_sumOfDrops) := goodIn_app (goodIn_of _ (by decide +kernel)) ggX3_keepIfBetter_X3_sumOfDrops
set_option maxRecDepth 20000 in
theorem ggX3_keepIfBetter_X3_farthestApart : GoodIn wsX3_keepIfBetter wsX3_farthestApart := goodIn_r _ [47, 14, 34, 48, 49, 50, 30, 51, 28, 29, 31, 52, 53, 54, 21, 55, 56, 57, 58, 59, 60, 61, 62, 63, 64, 65, 66, 67, 68, 69, 70, 71, 72, 73, 74, 75, 76, 77, 78, 79, 80, 81, 82, 83, 84, 85, 86, 87, 88, 89, 90, 91, 92, 93, 94] (by decide +kernel) (by decide +kernel)
set_option maxRecDepth 20000 in
theorem gX3_keepIfBetter_X3_farthestApart : GoodIn wsX3_keepIfBetter (wsV RX3 97 RX3 yX3_farthestApart wsX3_farthestApart) := goodIn_app (goodIn_of _ (by decide +kernel)) ggX3_keepIfBetter_X3_farthestApart
theorem dX3_keepIfBetter_0 : decode cX3_keepIfBetter 0 = .ok (.aload_n 0, 1) := by decide +kernel
theorem dX3_keepIfBetter_1 : decode cX3_keepIfBetter 1 = .ok (.invokevirtual 89, 3) := by decide +kernel
theorem dX3_keepIfBetter_4 : decode cX3_keepIfBetter 4 = .ok (.ifCond .ne 4, 3) := by decide +kernel
theorem dX3_keepIfBetter_7 : decode cX3_keepIfBetter 7 = .ok (.return_, 1) := by decide +kernel
theorem dX3_keepIfBetter_8 : decode cX3_keepIfBetter 8 = .ok (.aload_n 0, 1) := by decide +kernel
theorem dX3_keepIfBetter_9 : decode cX3_keepIfBetter 9 = .ok (.invokevirtual 93, 3) := by decide +kernel
theorem dX3_keepIfBetter_12 : decode cX3_keepIfBetter 12 = .ok (.pop, 1) := by decide +kernel
theorem dX3_keepIfBetter_13 : decode cX3_keepIfBetter 13 = .ok (.aload_n 0, 1) := by decide +kernel
theorem dX3_keepIfBetter_14 : decode cX3_keepIfBetter 14 = .ok (.invokevirtual 42, 3) := by decide +kernel
theorem dX3_keepIfBetter_17 : decode cX3_keepIfBetter 17 = .ok (.istore_n 1, 1) := by decide +kernel
theorem dX3_keepIfBetter_18 : decode cX3_keepIfBetter 18 = .ok (.aload_n 0, 1) := by decide +kernel
theorem dX3_keepIfBetter_19 : decode cX3_keepIfBetter 19 = .ok (.invokevirtual 97, 3) := by decide +kernel
theorem dX3_keepIfBetter_22 : decode cX3_keepIfBetter 22 = .ok (.istore_n 2, 1) := by decide +kernel
theorem dX3_keepIfBetter_23 : decode cX3_keepIfBetter 23 = .ok (.iload_n 2, 1) := by decide +kernel
theorem dX3_keepIfBetter_24 : decode cX3_keepIfBetter 24 = .ok (.aload_n 0, 1) := by decide +kernel
theorem dX3_keepIfBetter_25 : decode cX3_keepIfBetter 25 = .ok (.getfield 76, 3) := by decide +kernel
theorem dX3_keepIfBetter_28 : decode cX3_keepIfBetter 28 = .ok (.if_icmp .lt 19, 3) := by decide +kernel
theorem dX3_keepIfBetter_31 : decode cX3_keepIfBetter 31 = .ok (.iload_n 2, 1) := by decide +kernel
theorem dX3_keepIfBetter_32 : decode cX3_keepIfBetter 32 = .ok (.aload_n 0, 1) := by decide +kernel
theorem dX3_keepIfBetter_33 : decode cX3_keepIfBetter 33 = .ok (.getfield 76, 3) := by decide +kernel
theorem dX3_keepIfBetter_36 : decode cX3_keepIfBetter 36 = .ok (.if_icmp .ne 35, 3) := by decide +kernel
theorem dX3_keepIfBetter_39 : decode cX3_keepIfBetter 39 = .ok (.iload_n 1, 1) := by decide +kernel
theorem dX3_keepIfBetter_40 : decode cX3_keepIfBetter 40 = .ok (.aload_n 0, 1) := by decide +kernel
theorem dX3_keepIfBetter_41 : decode cX3_keepIfBetter 41 = .ok (.getfield 79, 3) := by decide +kernel
theorem dX3_keepIfBetter_44 : decode cX3_keepIfBetter 44 = .ok (.if_icmp .ge 27, 3) := by decide +kernel
theorem dX3_keepIfBetter_47 : decode cX3_keepIfBetter 47 = .ok (.aload_n 0, 1) := by decide +kernel
theorem dX3_keepIfBetter_48 : decode cX3_keepIfBetter 48 = .ok (.iload_n 2, 1) := by decide +kernel
theorem dX3_keepIfBetter_49 : decode cX3_keepIfBetter 49 = .ok (.putfield 76, 3) := by decide +kernel
theorem dX3_keepIfBetter_52 : decode cX3_keepIfBetter 52 = .ok (.aload_n 0, 1) := by decide +kernel
theorem dX3_keepIfBetter_53 : decode cX3_keepIfBetter 53 = .ok (.iload_n 1, 1) := by decide +kernel
theorem dX3_keepIfBetter_54 : decode cX3_keepIfBetter 54 = .ok (.putfield 79, 3) := by decide +kernel
theorem dX3_keepIfBetter_57 : decode cX3_keepIfBetter 57 = .ok (.aload_n 0, 1) := by decide +kernel
theorem dX3_keepIfBetter_58 : decode cX3_keepIfBetter 58 = .ok (.getfield 9, 3) := by decide +kernel
theorem dX3_keepIfBetter_61 : decode cX3_keepIfBetter 61 = .ok (.iconst 0, 1) := by decide +kernel
theorem dX3_keepIfBetter_62 : decode cX3_keepIfBetter 62 = .ok (.aload_n 0, 1) := by decide +kernel
theorem dX3_keepIfBetter_63 : decode cX3_keepIfBetter 63 = .ok (.getfield 25, 3) := by decide +kernel
theorem dX3_keepIfBetter_66 : decode cX3_keepIfBetter 66 = .ok (.iconst 0, 1) := by decide +kernel
theorem dX3_keepIfBetter_67 : decode cX3_keepIfBetter 67 = .ok (.iconst 4, 1) := by decide +kernel
theorem dX3_keepIfBetter_68 : decode cX3_keepIfBetter 68 = .ok (.invokestatic 100, 3) := by decide +kernel
theorem dX3_keepIfBetter_71 : decode cX3_keepIfBetter 71 = .ok (.return_, 1) := by decide +kernel
set_option maxRecDepth 20000 in
theorem ggX3_farthestApart_X6_views : GoodIn wsX3_farthestApart wsX6_views := goodIn_r _ [15, 16, 42, 43, 44, 45, 46, 47, 48, 49, 50, 51, 52] (by decide +kernel) (by decide +kernel)
set_option maxRecDepth 20000 in
theorem gX3_farthestApart_X6_views : GoodIn wsX3_farthestApart (wsV RX3 66 RX6 yX6_views wsX6_views) := goodIn_app (goodIn_of _ (by decide +kernel)) ggX3_farthestApart_X6_views
set_option maxRecDepth 20000 in
theorem ggX3_farthestApart_X6_lookOfCoat : GoodIn wsX3_farthestApart wsX6_lookOfCoat := goodIn_r _ [20, 21, 22, 23, 24, 25, 26, 27, 28, 29, 9, 6, 10, 30, 31, 32, 33, 34, 42, 43, 44, 45, 46, 47, 48, 49, 50, 51, 52, 53, 54] (by decide +kernel) (by decide +kernel)
set_option maxRecDepth 20000 in
theorem gX3_farthestApart_X6_lookOfCoat : GoodIn wsX3_farthestApart (wsV RX3 106 RX6 yX6_lookOfCoat wsX6_lookOfCoat) := goodIn_app (goodIn_of _ (by decide +kernel)) ggX3_farthestApart_X6_lookOfCoat
theorem dX3_farthestApart_0 : decode cX3_farthestApart 0 = .ok (.iconst 0, 1) := by decide +kernel
theorem dX3_farthestApart_1 : decode cX3_farthestApart 1 = .ok (.istore_n 1, 1) := by decide +kernel
theorem dX3_farthestApart_2 : decode cX3_farthestApart 2 = .ok (.iconst 0, 1) := by decide +kernel
theorem dX3_farthestApart_3 : decode cX3_farthestApart 3 = .ok (.istore_n 2, 1) := by decide +kernel
theorem dX3_farthestApart_4 : decode cX3_farthestApart 4 = .ok (.iload_n 2, 1) := by decide +kernel
theorem dX3_farthestApart_5 : decode cX3_farthestApart 5 = .ok (.aload_n 0, 1) := by decide +kernel
theorem dX3_farthestApart_6 : decode cX3_farthestApart 6 = .ok (.getfield 28, 3) := by decide +kernel
theorem dX3_farthestApart_9 : decode cX3_farthestApart 9 = .ok (.invokevirtual 66, 3) := by decide +kernel
theorem dX3_farthestApart_12 : decode cX3_farthestApart 12 = .ok (.if_icmp .ge 54, 3) := by decide +kernel
theorem dX3_farthestApart_15 : decode cX3_farthestApart 15 = .ok (.aload_n 0, 1) := by decide +kernel
theorem dX3_farthestApart_16 : decode cX3_farthestApart 16 = .ok (.getfield 28, 3) := by decide +kernel
theorem dX3_farthestApart_19 : decode cX3_farthestApart 19 = .ok (.aload_n 0, 1) := by decide +kernel
theorem dX3_farthestApart_20 : decode cX3_farthestApart 20 = .ok (.getfield 18, 3) := by decide +kernel
theorem dX3_farthestApart_23 : decode cX3_farthestApart 23 = .ok (.iconst 0, 1) := by decide +kernel
theorem dX3_farthestApart_24 : decode cX3_farthestApart 24 = .ok (.iconst 0, 1) := by decide +kernel
theorem dX3_farthestApart_25 : decode cX3_farthestApart 25 = .ok (.iload_n 2, 1) := by decide +kernel
theorem dX3_farthestApart_26 : decode cX3_farthestApart 26 = .ok (.iconst 2, 1) := by decide +kernel
theorem dX3_farthestApart_27 : decode cX3_farthestApart 27 = .ok (.idiv, 1) := by decide +kernel
theorem dX3_farthestApart_28 : decode cX3_farthestApart 28 = .ok (.iload_n 2, 1) := by decide +kernel
theorem dX3_farthestApart_29 : decode cX3_farthestApart 29 = .ok (.iconst 2, 1) := by decide +kernel
theorem dX3_farthestApart_30 : decode cX3_farthestApart 30 = .ok (.irem, 1) := by decide +kernel
theorem dX3_farthestApart_31 : decode cX3_farthestApart 31 = .ok (.iconst 1, 1) := by decide +kernel
theorem dX3_farthestApart_32 : decode cX3_farthestApart 32 = .ok (.if_icmp .ne 7, 3) := by decide +kernel
theorem dX3_farthestApart_35 : decode cX3_farthestApart 35 = .ok (.iconst 1, 1) := by decide +kernel
theorem dX3_farthestApart_36 : decode cX3_farthestApart 36 = .ok (.goto 4, 3) := by decide +kernel
theorem dX3_farthestApart_39 : decode cX3_farthestApart 39 = .ok (.iconst 0, 1) := by decide +kernel
theorem dX3_farthestApart_40 : decode cX3_farthestApart 40 = .ok (.invokevirtual 106, 3) := by decide +kernel
theorem dX3_farthestApart_43 : decode cX3_farthestApart 43 = .ok (.istore_n 3, 1) := by decide +kernel
theorem dX3_farthestApart_44 : decode cX3_farthestApart 44 = .ok (.iload_n 1, 1) := by decide +kernel
theorem dX3_farthestApart_45 : decode cX3_farthestApart 45 = .ok (.iload_n 3, 1) := by decide +kernel
theorem dX3_farthestApart_46 : decode cX3_farthestApart 46 = .ok (.aload_n 0, 1) := by decide +kernel
theorem dX3_farthestApart_47 : decode cX3_farthestApart 47 = .ok (.getfield 22, 3) := by decide +kernel
theorem dX3_farthestApart_50 : decode cX3_farthestApart 50 = .ok (.iload_n 2, 1) := by decide +kernel
theorem dX3_farthestApart_51 : decode cX3_farthestApart 51 = .ok (.iaload, 1) := by decide +kernel
theorem dX3_farthestApart_52 : decode cX3_farthestApart 52 = .ok (.isub, 1) := by decide +kernel
theorem dX3_farthestApart_53 : decode cX3_farthestApart 53 = .ok (.invokestatic 110, 3) := by decide +kernel
theorem dX3_farthestApart_56 : decode cX3_farthestApart 56 = .ok (.invokestatic 46, 3) := by decide +kernel
theorem dX3_farthestApart_59 : decode cX3_farthestApart 59 = .ok (.istore_n 1, 1) := by decide +kernel
theorem dX3_farthestApart_60 : decode cX3_farthestApart 60 = .ok (.iinc 2 1, 3) := by decide +kernel
theorem dX3_farthestApart_63 : decode cX3_farthestApart 63 = .ok (.goto (-59), 3) := by decide +kernel
theorem dX3_farthestApart_66 : decode cX3_farthestApart 66 = .ok (.iload_n 1, 1) := by decide +kernel
theorem dX3_farthestApart_67 : decode cX3_farthestApart 67 = .ok (.ireturn, 1) := by decide +kernel
theorem dX4_init_0 : decode cX4_init 0 = .ok (.aload_n 0, 1) := by decide +kernel
theorem dX4_init_1 : decode cX4_init 1 = .ok (.invokespecial 1, 3) := by decide +kernel
theorem dX4_init_4 : decode cX4_init 4 = .ok (.aload_n 0, 1) := by decide +kernel
theorem dX4_init_5 : decode cX4_init 5 = .ok (.aload_n 1, 1) := by decide +kernel
theorem dX4_init_6 : decode cX4_init 6 = .ok (.putfield 7, 3) := by decide +kernel
theorem dX4_init_9 : decode cX4_init 9 = .ok (.aload_n 0, 1) := by decide +kernel
theorem dX4_init_10 : decode cX4_init 10 = .ok (.aload_n 2, 1) := by decide +kernel
theorem dX4_init_11 : decode cX4_init 11 = .ok (.putfield 13, 3) := by decide +kernel
theorem dX4_init_14 : decode cX4_init 14 = .ok (.return_, 1) := by decide +kernel
set_option maxRecDepth 20000 in
theorem ggX4_searchAround_X2_takeAsItIs : GoodIn wsX4_searchAround wsX2_takeAsItIs := goodIn_r _ [10, 11, 12, 13, 14, 15, 16, 17, 18, 19, 20, 21, 22, 23, 24, 25, 26, 27, 28, 29, 30, 31, 32, 33, 34, 35, 36, 37, 38, 39, 40, 41, 42, 43, 44, 45, 46, 47, 48, 49, 50, 51, 52, 9, 53, 54, 120, 121, 122, 109, 110, 111, 112, 113, 114, 115, 116, 117, 118, 119, 123, 124, 125, 126, 127, 128, 129] (by decide +kernel) (by decide +kernel)
set_option maxRecDepth 20000 in
theorem gX4_searchAround_X2_takeAsItIs : GoodIn wsX4_searchAround (wsV RX4 21 RX2 yX2_takeAsItIs wsX2_takeAsItIs) := goodIn_app (goodIn_of _ (by decide +kernel)) ggX4_searchAround_X2_takeAsItIs
set_option maxRecDepth 20000 in
theorem ggX4_searchAround_X2_takeFresh : GoodIn wsX4_searchAround wsX2_takeFresh := goodIn_r _ [58, 11, 13, 59, 14, 15, 16, 17, 18, 19, 60, 30, 31, 32, 33, 34, 35, 36, 37, 38, 39, 40, 41, 42, 43, 44, 45, 46, 47, 48, 49, 120, 121, 122, 109, 110, 111, 112, 113, 114, 115, 116, 117, 118, 119, 128, 129] (by decide +kernel) (by decide +kernel)
set_option maxRecDepth 20000 in
theorem gX4_searchAround_X2_takeFresh : GoodIn wsX4_searchAround (wsV RX4 26 RX2 yX2_takeFresh wsX2_takeFresh) := goodIn_app (goodIn_of _ (by decide +kernel)) ggX4_searchAround_X2_takeFresh
set_option maxRecDepth 20000 in
theorem ggX4_searchAround_X6_rowOf : GoodIn wsX4_searchAround wsX6_rowOf := goodIn_r _ [64, 65, 109, 110, 111, 112, 113, 114, 115, 116, 117, 118, 119] (by decide +kernel) (by decide +kernel)
set_option maxRecDepth 20000 in
theorem gX4_searchAround_X6_rowOf : GoodIn wsX4_searchAround (wsV RX4 30 RX6 yX6_rowOf wsX6_rowOf) := goodIn_app (goodIn_of _ (by decide +kernel)) ggX4_searchAround_X6_rowOf
set_option maxRecDepth 20000 in
theorem ggX4_searchAround_X6_columnOf : GoodIn wsX4_searchAround wsX6_columnOf := goodIn_r _ [69, 65, 109, 110, 111, 112, 113, 114, 115, 116, 117, 118, 119] (by decide +kernel) (by decide +kernel)
set_option maxRecDepth 20000 in
theorem gX4_searchAround_X6_columnOf : GoodIn wsX4_searchAround (wsV RX4 36 RX6 yX6_columnOf wsX6_columnOf) := goodIn_app (goodIn_of _ (by decide +kernel)) ggX4_searchAround_X6_columnOf
set_option maxRecDepth 20000 in
theorem ggX4_searchAround_X4_keepIfBetter : GoodIn wsX4_searchAround wsX4_keepIfBetter := goodIn_r _ [74, 1, 2, 3, 5, 75, 76, 77, 51, 52, 9, 53, 11, 12, 54, 78, 79, 80, 81, 82, 83, 84, 85, 86, 87, 88, 89, 90, 91, 67, 68, 17, 69, 65, 92, 93, 94, 95, 13, 96, 97, 43, 98, 99, 14, 15, 16, 18, 19, 100, 101, 102, 103, 104, 105, 106, 107, 108, 109, 110, 111, 112, 113, 114, 115, 116, 117, 118, 119, 120, 121, 122] (by decide +kernel) (by decide +kernel)
set_option maxRecDepth 20000 in
theorem gX4_searchAround_X4_keepIfBetter : GoodIn wsX4_searchAround (wsV RX4 45 RX4 yX4_keepIfBetter wsX4_keepIfBetter) := goodIn_app (goodIn_of _ (by decide +kernel)) ggX4_searchAround_X4_keepIfBetter
theorem dX4_searchAround_0 : decode cX4_searchAround 0 = .ok (.aload_n 0, 1) := by decide +kernel
theorem dX4_searchAround_1 : decode cX4_searchAround 1 = .ok (.iconst 0, 1) := by decide +kernel
theorem dX4_searchAround_2 : decode cX4_searchAround 2 = .ok (.putfield 17, 3) := by decide +kernel
theorem dX4_searchAround_5 : decode cX4_searchAround 5 = .ok (.aload_n 0, 1) := by decide +kernel
theorem dX4_searchAround_6 : decode cX4_searchAround 6 = .ok (.getfield 13, 3) := by decide +kernel
theorem dX4_searchAround_9 : decode cX4_searchAround 9 = .ok (.invokevirtual 21, 3) := by decide +kernel
theorem dX4_searchAround_12 : decode cX4_searchAround 12 = .ok (.aload_n 0, 1) := by decide +kernel
theorem dX4_searchAround_13 : decode cX4_searchAround 13 = .ok (.getfield 13, 3) := by decide +kernel
theorem dX4_searchAround_16 : decode cX4_searchAround 16 = .ok (.iload_n 2, 1) := by decide +kernel
theorem dX4_searchAround_17 : decode cX4_searchAround 17 = .ok (.invokevirtual 26, 3) := by decide +kernel
theorem dX4_searchAround_20 : decode cX4_searchAround 20 = .ok (.aload_n 0, 1) := by decide +kernel
theorem dX4_searchAround_21 : decode cX4_searchAround 21 = .ok (.getfield 7, 3) := by decide +kernel
theorem dX4_searchAround_24 : decode cX4_searchAround 24 = .ok (.iload_n 1, 1) := by decide +kernel
theorem dX4_searchAround_25 : decode cX4_searchAround 25 = .ok (.invokevirtual 30, 3) := by decide +kernel
theorem dX4_searchAround_28 : decode cX4_searchAround 28 = .ok (.istore_n 3, 1) := by decide +kernel
theorem dX4_searchAround_29 : decode cX4_searchAround 29 = .ok (.aload_n 0, 1) := by decide +kernel
theorem dX4_searchAround_30 : decode cX4_searchAround 30 = .ok (.getfield 7, 3) := by decide +kernel
theorem dX4_searchAround_33 : decode cX4_searchAround 33 = .ok (.iload_n 1, 1) := by decide +kernel
theorem dX4_searchAround_34 : decode cX4_searchAround 34 = .ok (.invokevirtual 36, 3) := by decide +kernel
theorem dX4_searchAround_37 : decode cX4_searchAround 37 = .ok (.istore 4, 2) := by decide +kernel
theorem dX4_searchAround_39 : decode cX4_searchAround 39 = .ok (.iconst 0, 1) := by decide +kernel
theorem dX4_searchAround_40 : decode cX4_searchAround 40 = .ok (.istore 5, 2) := by decide +kernel
theorem dX4_searchAround_42 : decode cX4_searchAround 42 = .ok (.iload 5, 2) := by decide +kernel
theorem dX4_searchAround_44 : decode cX4_searchAround 44 = .ok (.iload_n 3, 1) := by decide +kernel
theorem dX4_searchAround_45 : decode cX4_searchAround 45 = .ok (.if_icmp .gt 80, 3) := by decide +kernel
theorem dX4_searchAround_48 : decode cX4_searchAround 48 = .ok (.iconst 0, 1) := by decide +kernel
theorem dX4_searchAround_49 : decode cX4_searchAround 49 = .ok (.istore 6, 2) := by decide +kernel
theorem dX4_searchAround_51 : decode cX4_searchAround 51 = .ok (.iload 6, 2) := by decide +kernel
theorem dX4_searchAround_53 : decode cX4_searchAround 53 = .ok (.iload 4, 2) := by decide +kernel
theorem dX4_searchAround_55 : decode cX4_searchAround 55 = .ok (.if_icmp .gt 64, 3) := by decide +kernel
theorem dX4_searchAround_58 : decode cX4_searchAround 58 = .ok (.iload_n 3, 1) := by decide +kernel
theorem dX4_searchAround_59 : decode cX4_searchAround 59 = .ok (.istore 7, 2) := by decide +kernel
theorem dX4_searchAround_61 : decode cX4_searchAround 61 = .ok (.iload 7, 2) := by decide +kernel
theorem dX4_searchAround_63 : decode cX4_searchAround 63 = .ok (.aload_n 0, 1) := by decide +kernel
theorem dX4_searchAround_64 : decode cX4_searchAround 64 = .ok (.getfield 7, 3) := by decide +kernel
theorem dX4_searchAround_67 : decode cX4_searchAround 67 = .ok (.getfield 39, 3) := by decide +kernel
theorem dX4_searchAround_70 : decode cX4_searchAround 70 = .ok (.if_icmp .ge 43, 3) := by decide +kernel
theorem dX4_searchAround_73 : decode cX4_searchAround 73 = .ok (.iload 4, 2) := by decide +kernel
theorem dX4_searchAround_75 : decode cX4_searchAround 75 = .ok (.istore 8, 2) := by decide +kernel
theorem dX4_searchAround_77 : decode cX4_searchAround 77 = .ok (.iload 8, 2) := by decide +kernel
theorem dX4_searchAround_79 : decode cX4_searchAround 79 = .ok (.aload_n 0, 1) := by decide +kernel
theorem dX4_searchAround_80 : decode cX4_searchAround 80 = .ok (.getfield 7, 3) := by decide +kernel
theorem dX4_searchAround_83 : decode cX4_searchAround 83 = .ok (.getfield 42, 3) := by decide +kernel
theorem dX4_searchAround_86 : decode cX4_searchAround 86 = .ok (.if_icmp .ge 21, 3) := by decide +kernel
theorem dX4_searchAround_89 : decode cX4_searchAround 89 = .ok (.aload_n 0, 1) := by decide +kernel
theorem dX4_searchAround_90 : decode cX4_searchAround 90 = .ok (.iload 5, 2) := by decide +kernel
theorem dX4_searchAround_92 : decode cX4_searchAround 92 = .ok (.iload 6, 2) := by decide +kernel
theorem dX4_searchAround_94 : decode cX4_searchAround 94 = .ok (.iload 7, 2) := by decide +kernel
theorem dX4_searchAround_96 : decode cX4_searchAround 96 = .ok (.iload 8, 2) := by decide +kernel
theorem dX4_searchAround_98 : decode cX4_searchAround 98 = .ok (.invokevirtual 45, 3) := by decide +kernel
theorem dX4_searchAround_101 : decode cX4_searchAround 101 = .ok (.iinc 8 1, 3) := by decide +kernel
theorem dX4_searchAround_104 : decode cX4_searchAround 104 = .ok (.goto (-27), 3) := by decide +kernel
theorem dX4_searchAround_107 : decode cX4_searchAround 107 = .ok (.iinc 7 1, 3) := by decide +kernel
theorem dX4_searchAround_110 : decode cX4_searchAround 110 = .ok (.goto (-49), 3) := by decide +kernel
theorem dX4_searchAround_113 : decode cX4_searchAround 113 = .ok (.iinc 6 1, 3) := by decide +kernel
theorem dX4_searchAround_116 : decode cX4_searchAround 116 = .ok (.goto (-65), 3) := by decide +kernel
theorem dX4_searchAround_119 : decode cX4_searchAround 119 = .ok (.iinc 5 1, 3) := by decide +kernel
theorem dX4_searchAround_122 : decode cX4_searchAround 122 = .ok (.goto (-80), 3) := by decide +kernel
theorem dX4_searchAround_125 : decode cX4_searchAround 125 = .ok (.return_, 1) := by decide +kernel
set_option maxRecDepth 20000 in
theorem ggX4_keepIfBetter_X2_unpaint : GoodIn wsX4_keepIfBetter wsX2_unpaint := goodIn_r _ [11, 12, 13, 14, 69, 70, 71, 58, 59, 60, 61, 62, 63, 64, 65, 66, 67, 68] (by decide +kernel) (by decide +kernel)
set_option maxRecDepth 20000 in
theorem gX4_keepIfBetter_X2_unpaint : GoodIn wsX4_keepIfBetter (wsV RX4 49 RX2 yX2_unpaint wsX2_unpaint) := goodIn_app (goodIn_of _ (by decide +kernel)) ggX4_keepIfBetter_X2_unpaint
set_option maxRecDepth 20000 in
theorem ggX4_keepIfBetter_X2_paintOne : GoodIn wsX4_keepIfBetter wsX2_paintOne := goodIn_r _ [18, 14, 69, 70, 71] (by decide +kernel) (by decide +kernel)
set_option maxRecDepth 20000 in
theorem gX4_keepIfBetter_X2_paintOne : GoodIn wsX4_keepIfBetter (wsV RX4 52 RX2 yX2_paintOne wsX2_paintOne) := goodIn_app (goodIn_of _ (by decide +kernel)) ggX4_keepIfBetter_X2_paintOne
set_option maxRecDepth 20000 in
theorem ggX4_keepIfBetter_X2_isAnySeen : GoodIn wsX4_keepIfBetter wsX2_isAnySeen := goodIn_r _ [22, 12, 13, 23, 24, 25, 10, 26, 27, 28, 29, 30, 31, 32, 33, 34, 35, 36, 37, 14, 38, 39, 40, 41, 42, 43, 44, 45, 46, 47, 48, 49, 50, 51, 52, 69, 70, 71, 58, 59, 60, 61, 62, 63, 64, 65, 66, 67, 68] (by decide +kernel) (by decide +kernel)
set_option maxRecDepth 20000 in
theorem gX4_keepIfBetter_X2_isAnySeen : GoodIn wsX4_keepIfBetter (wsV RX4 55 RX2 yX2_isAnySeen wsX2_isAnySeen) := goodIn_app (goodIn_of _ (by decide +kernel)) ggX4_keepIfBetter_X2_isAnySeen
theorem dX4_keepIfBetter_0 : decode cX4_keepIfBetter 0 = .ok (.iload_n 3, 1) := by decide +kernel
theorem dX4_keepIfBetter_1 : decode cX4_keepIfBetter 1 = .ok (.iload_n 1, 1) := by decide +kernel
theorem dX4_keepIfBetter_2 : decode cX4_keepIfBetter 2 = .ok (.isub, 1) := by decide +kernel
theorem dX4_keepIfBetter_3 : decode cX4_keepIfBetter 3 = .ok (.iconst 1, 1) := by decide +kernel
theorem dX4_keepIfBetter_4 : decode cX4_keepIfBetter 4 = .ok (.iadd, 1) := by decide +kernel
theorem dX4_keepIfBetter_5 : decode cX4_keepIfBetter 5 = .ok (.iload 4, 2) := by decide +kernel
theorem dX4_keepIfBetter_7 : decode cX4_keepIfBetter 7 = .ok (.iload_n 2, 1) := by decide +kernel
theorem dX4_keepIfBetter_8 : decode cX4_keepIfBetter 8 = .ok (.isub, 1) := by decide +kernel
theorem dX4_keepIfBetter_9 : decode cX4_keepIfBetter 9 = .ok (.iconst 1, 1) := by decide +kernel
theorem dX4_keepIfBetter_10 : decode cX4_keepIfBetter 10 = .ok (.iadd, 1) := by decide +kernel
theorem dX4_keepIfBetter_11 : decode cX4_keepIfBetter 11 = .ok (.imul, 1) := by decide +kernel
theorem dX4_keepIfBetter_12 : decode cX4_keepIfBetter 12 = .ok (.istore 5, 2) := by decide +kernel
theorem dX4_keepIfBetter_14 : decode cX4_keepIfBetter 14 = .ok (.aload_n 0, 1) := by decide +kernel
theorem dX4_keepIfBetter_15 : decode cX4_keepIfBetter 15 = .ok (.getfield 17, 3) := by decide +kernel
theorem dX4_keepIfBetter_18 : decode cX4_keepIfBetter 18 = .ok (.ifCond .eq 13, 3) := by decide +kernel
theorem dX4_keepIfBetter_21 : decode cX4_keepIfBetter 21 = .ok (.iload 5, 2) := by decide +kernel
theorem dX4_keepIfBetter_23 : decode cX4_keepIfBetter 23 = .ok (.aload_n 0, 1) := by decide +kernel
theorem dX4_keepIfBetter_24 : decode cX4_keepIfBetter 24 = .ok (.getfield 17, 3) := by decide +kernel
theorem dX4_keepIfBetter_27 : decode cX4_keepIfBetter 27 = .ok (.if_icmp .lt 4, 3) := by decide +kernel
theorem dX4_keepIfBetter_30 : decode cX4_keepIfBetter 30 = .ok (.return_, 1) := by decide +kernel
theorem dX4_keepIfBetter_31 : decode cX4_keepIfBetter 31 = .ok (.aload_n 0, 1) := by decide +kernel
theorem dX4_keepIfBetter_32 : decode cX4_keepIfBetter 32 = .ok (.getfield 13, 3) := by decide +kernel
theorem dX4_keepIfBetter_35 : decode cX4_keepIfBetter 35 = .ok (.invokevirtual 49, 3) := by decide +kernel
theorem dX4_keepIfBetter_38 : decode cX4_keepIfBetter 38 = .ok (.iload_n 1, 1) := by decide +kernel
theorem dX4_keepIfBetter_39 : decode cX4_keepIfBetter 39 = .ok (.istore 6, 2) := by decide +kernel
theorem dX4_keepIfBetter_41 : decode cX4_keepIfBetter 41 = .ok (.iload 6, 2) := by decide +kernel
theorem dX4_keepIfBetter_43 : decode cX4_keepIfBetter 43 = .ok (.iload_n 3, 1) := by decide +kernel
theorem dX4_keepIfBetter_44 : decode cX4_keepIfBetter 44 = .ok (.if_icmp .gt 45, 3) := by decide +kernel
theorem dX4_keepIfBetter_47 : decode cX4_keepIfBetter 47 = .ok (.iload_n 2, 1) := by decide +kernel
theorem dX4_keepIfBetter_48 : decode cX4_keepIfBetter 48 = .ok (.istore 7, 2) := by decide +kernel
theorem dX4_keepIfBetter_50 : decode cX4_keepIfBetter 50 = .ok (.iload 7, 2) := by decide +kernel
theorem dX4_keepIfBetter_52 : decode cX4_keepIfBetter 52 = .ok (.iload 4, 2) := by decide +kernel
theorem dX4_keepIfBetter_54 : decode cX4_keepIfBetter 54 = .ok (.if_icmp .gt 29, 3) := by decide +kernel
theorem dX4_keepIfBetter_57 : decode cX4_keepIfBetter 57 = .ok (.aload_n 0, 1) := by decide +kernel
theorem dX4_keepIfBetter_58 : decode cX4_keepIfBetter 58 = .ok (.getfield 13, 3) := by decide +kernel
theorem dX4_keepIfBetter_61 : decode cX4_keepIfBetter 61 = .ok (.iload 6, 2) := by decide +kernel
theorem dX4_keepIfBetter_63 : decode cX4_keepIfBetter 63 = .ok (.aload_n 0, 1) := by decide +kernel
theorem dX4_keepIfBetter_64 : decode cX4_keepIfBetter 64 = .ok (.getfield 7, 3) := by decide +kernel
theorem dX4_keepIfBetter_67 : decode cX4_keepIfBetter 67 = .ok (.getfield 42, 3) := by decide +kernel
theorem dX4_keepIfBetter_70 : decode cX4_keepIfBetter 70 = .ok (.imul, 1) := by decide +kernel
theorem dX4_keepIfBetter_71 : decode cX4_keepIfBetter 71 = .ok (.iload 7, 2) := by decide +kernel
theorem dX4_keepIfBetter_73 : decode cX4_keepIfBetter 73 = .ok (.iadd, 1) := by decide +kernel
theorem dX4_keepIfBetter_74 : decode cX4_keepIfBetter 74 = .ok (.invokevirtual 52, 3) := by decide +kernel
theorem dX4_keepIfBetter_77 : decode cX4_keepIfBetter 77 = .ok (.iinc 7 1, 3) := by decide +kernel
theorem dX4_keepIfBetter_80 : decode cX4_keepIfBetter 80 = .ok (.goto (-30), 3) := by decide +kernel
theorem dX4_keepIfBetter_83 : decode cX4_keepIfBetter 83 = .ok (.iinc 6 1, 3) := by decide +kernel
theorem dX4_keepIfBetter_86 : decode cX4_keepIfBetter 86 = .ok (.goto (-45), 3) := by decide +kernel
theorem dX4_keepIfBetter_89 : decode cX4_keepIfBetter 89 = .ok (.aload_n 0, 1) := by decide +kernel
theorem dX4_keepIfBetter_90 : decode cX4_keepIfBetter 90 = .ok (.getfield 13, 3) := by decide +kernel
theorem dX4_keepIfBetter_93 : decode cX4_keepIfBetter 93 = .ok (.invokevirtual 55, 3) := by decide +kernel
theorem dX4_keepIfBetter_96 : decode cX4_keepIfBetter 96 = .ok (.ifCond .ne 40, 3) := by decide +kernel
theorem dX4_keepIfBetter_99 : decode cX4_keepIfBetter 99 = .ok (.aload_n 0, 1) := by decide +kernel
theorem dX4_keepIfBetter_100 : decode cX4_keepIfBetter 100 = .ok (.iload 5, 2) := by decide +kernel
theorem dX4_keepIfBetter_102 : decode cX4_keepIfBetter 102 = .ok (.putfield 17, 3) := by decide +kernel
theorem dX4_keepIfBetter_105 : decode cX4_keepIfBetter 105 = .ok (.aload_n 0, 1) := by decide +kernel
theorem dX4_keepIfBetter_106 : decode cX4_keepIfBetter 106 = .ok (.iload_n 1, 1) := by decide +kernel
theorem dX4_keepIfBetter_107 : decode cX4_keepIfBetter 107 = .ok (.aload_n 0, 1) := by decide +kernel
theorem dX4_keepIfBetter_108 : decode cX4_keepIfBetter 108 = .ok (.getfield 7, 3) := by decide +kernel
theorem dX4_keepIfBetter_111 : decode cX4_keepIfBetter 111 = .ok (.getfield 42, 3) := by decide +kernel
theorem dX4_keepIfBetter_114 : decode cX4_keepIfBetter 114 = .ok (.imul, 1) := by decide +kernel
theorem dX4_keepIfBetter_115 : decode cX4_keepIfBetter 115 = .ok (.iload_n 2, 1) := by decide +kernel
theorem dX4_keepIfBetter_116 : decode cX4_keepIfBetter 116 = .ok (.iadd, 1) := by decide +kernel
theorem dX4_keepIfBetter_117 : decode cX4_keepIfBetter 117 = .ok (.putfield 59, 3) := by decide +kernel
theorem dX4_keepIfBetter_120 : decode cX4_keepIfBetter 120 = .ok (.aload_n 0, 1) := by decide +kernel
theorem dX4_keepIfBetter_121 : decode cX4_keepIfBetter 121 = .ok (.iload_n 3, 1) := by decide +kernel
theorem dX4_keepIfBetter_122 : decode cX4_keepIfBetter 122 = .ok (.aload_n 0, 1) := by decide +kernel
theorem dX4_keepIfBetter_123 : decode cX4_keepIfBetter 123 = .ok (.getfield 7, 3) := by decide +kernel
theorem dX4_keepIfBetter_126 : decode cX4_keepIfBetter 126 = .ok (.getfield 42, 3) := by decide +kernel
theorem dX4_keepIfBetter_129 : decode cX4_keepIfBetter 129 = .ok (.imul, 1) := by decide +kernel
theorem dX4_keepIfBetter_130 : decode cX4_keepIfBetter 130 = .ok (.iload 4, 2) := by decide +kernel
theorem dX4_keepIfBetter_132 : decode cX4_keepIfBetter 132 = .ok (.iadd, 1) := by decide +kernel
theorem dX4_keepIfBetter_133 : decode cX4_keepIfBetter 133 = .ok (.putfield 62, 3) := by decide +kernel
theorem dX4_keepIfBetter_136 : decode cX4_keepIfBetter 136 = .ok (.return_, 1) := by decide +kernel
theorem dX5_init_0 : decode cX5_init 0 = .ok (.aload_n 0, 1) := by decide +kernel
theorem dX5_init_1 : decode cX5_init 1 = .ok (.invokespecial 3, 3) := by decide +kernel
theorem dX5_init_4 : decode cX5_init 4 = .ok (.aload_n 0, 1) := by decide +kernel
theorem dX5_init_5 : decode cX5_init 5 = .ok (.bipush 40, 2) := by decide +kernel
theorem dX5_init_7 : decode cX5_init 7 = .ok (.newarray .int, 2) := by decide +kernel
theorem dX5_init_9 : decode cX5_init 9 = .ok (.putfield 9, 3) := by decide +kernel
theorem dX5_init_12 : decode cX5_init 12 = .ok (.return_, 1) := by decide +kernel
set_option maxRecDepth 20000 in
theorem ggX5_begin_J7_fill_53178 : GoodIn wsX5_begin wsJ7_fill_53178 := goodIn_r _ [8] (by decide +kernel) (by decide +kernel)
set_option maxRecDepth 20000 in
theorem gX5_begin_J7_fill_53178 : GoodIn wsX5_begin (va_wsS RX5 26 yJ7_fill_53178 wsJ7_fill_53178) := goodIn_app (goodIn_of _ (by decide +kernel)) ggX5_begin_J7_fill_53178
theorem dX5_begin_0 : decode cX5_begin 0 = .ok (.aload_n 0, 1) := by decide +kernel
theorem dX5_begin_1 : decode cX5_begin 1 = .ok (.iconst 1, 1) := by decide +kernel
theorem dX5_begin_2 : decode cX5_begin 2 = .ok (.putfield 15, 3) := by decide +kernel
theorem dX5_begin_5 : decode cX5_begin 5 = .ok (.aload_n 0, 1) := by decide +kernel
theorem dX5_begin_6 : decode cX5_begin 6 = .ok (.iload_n 1, 1) := by decide +kernel
theorem dX5_begin_7 : decode cX5_begin 7 = .ok (.putfield 19, 3) := by decide +kernel
theorem dX5_begin_10 : decode cX5_begin 10 = .ok (.aload_n 0, 1) := by decide +kernel
theorem dX5_begin_11 : decode cX5_begin 11 = .ok (.iload_n 2, 1) := by decide +kernel
theorem dX5_begin_12 : decode cX5_begin 12 = .ok (.putfield 23, 3) := by decide +kernel
theorem dX5_begin_15 : decode cX5_begin 15 = .ok (.aload_n 0, 1) := by decide +kernel
theorem dX5_begin_16 : decode cX5_begin 16 = .ok (.getfield 9, 3) := by decide +kernel
theorem dX5_begin_19 : decode cX5_begin 19 = .ok (.iconst 0, 1) := by decide +kernel
theorem dX5_begin_20 : decode cX5_begin 20 = .ok (.invokestatic 26, 3) := by decide +kernel
theorem dX5_begin_23 : decode cX5_begin 23 = .ok (.return_, 1) := by decide +kernel
theorem dX5_cut_0 : decode cX5_cut 0 = .ok (.aload_n 0, 1) := by decide +kernel
theorem dX5_cut_1 : decode cX5_cut 1 = .ok (.getfield 19, 3) := by decide +kernel
theorem dX5_cut_4 : decode cX5_cut 4 = .ok (.lookupswitch 34 #[(0, 28), (1, 31)], 28) := by decide +kernel
theorem dX5_cut_32 : decode cX5_cut 32 = .ok (.iload_n 1, 1) := by decide +kernel
theorem dX5_cut_33 : decode cX5_cut 33 = .ok (.i2b, 1) := by decide +kernel
theorem dX5_cut_34 : decode cX5_cut 34 = .ok (.ireturn, 1) := by decide +kernel
theorem dX5_cut_35 : decode cX5_cut 35 = .ok (.iload_n 1, 1) := by decide +kernel
theorem dX5_cut_36 : decode cX5_cut 36 = .ok (.i2s, 1) := by decide +kernel
theorem dX5_cut_37 : decode cX5_cut 37 = .ok (.ireturn, 1) := by decide +kernel
theorem dX5_cut_38 : decode cX5_cut 38 = .ok (.iload_n 1, 1) := by decide +kernel
theorem dX5_cut_39 : decode cX5_cut 39 = .ok (.ireturn, 1) := by decide +kernel
theorem dX5_reaches_0 : decode cX5_reaches 0 = .ok (.iload_n 1, 1) := by decide +kernel
theorem dX5_reaches_1 : decode cX5_reaches 1 = .ok (.ifCond .lt 29, 3) := by decide +kernel
theorem dX5_reaches_4 : decode cX5_reaches 4 = .ok (.iload_n 2, 1) := by decide +kernel
theorem dX5_reaches_5 : decode cX5_reaches 5 = .ok (.ifCond .lt 25, 3) := by decide +kernel
theorem dX5_reaches_8 : decode cX5_reaches 8 = .ok (.iload_n 1, 1) := by decide +kernel
theorem dX5_reaches_9 : decode cX5_reaches 9 = .ok (.aload_n 0, 1) := by decide +kernel
theorem dX5_reaches_10 : decode cX5_reaches 10 = .ok (.getfield 23, 3) := by decide +kernel
theorem dX5_reaches_13 : decode cX5_reaches 13 = .ok (.if_icmp .gt 17, 3) := by decide +kernel
theorem dX5_reaches_16 : decode cX5_reaches 16 = .ok (.iload_n 2, 1) := by decide +kernel
theorem dX5_reaches_17 : decode cX5_reaches 17 = .ok (.aload_n 0, 1) := by decide +kernel
theorem dX5_reaches_18 : decode cX5_reaches 18 = .ok (.getfield 23, 3) := by decide +kernel
theorem dX5_reaches_21 : decode cX5_reaches 21 = .ok (.iload_n 1, 1) := by decide +kernel
theorem dX5_reaches_22 : decode cX5_reaches 22 = .ok (.isub, 1) := by decide +kernel
theorem dX5_reaches_23 : decode cX5_reaches 23 = .ok (.if_icmp .gt 7, 3) := by decide +kernel
theorem dX5_reaches_26 : decode cX5_reaches 26 = .ok (.iconst 1, 1) := by decide +kernel
theorem dX5_reaches_27 : decode cX5_reaches 27 = .ok (.goto 4, 3) := by decide +kernel
theorem dX5_reaches_30 : decode cX5_reaches 30 = .ok (.iconst 0, 1) := by decide +kernel
theorem dX5_reaches_31 : decode cX5_reaches 31 = .ok (.ireturn, 1) := by decide +kernel
theorem dX5_faultAs_0 : decode cX5_faultAs 0 = .ok (.aload_n 0, 1) := by decide +kernel
theorem dX5_faultAs_1 : decode cX5_faultAs 1 = .ok (.getfield 15, 3) := by decide +kernel
theorem dX5_faultAs_4 : decode cX5_faultAs 4 = .ok (.ifCond .ne 5, 3) := by decide +kernel
theorem dX5_faultAs_7 : decode cX5_faultAs 7 = .ok (.iconst 1, 1) := by decide +kernel
theorem dX5_faultAs_8 : decode cX5_faultAs 8 = .ok (.ireturn, 1) := by decide +kernel
theorem dX5_faultAs_9 : decode cX5_faultAs 9 = .ok (.aload_n 0, 1) := by decide +kernel
theorem dX5_faultAs_10 : decode cX5_faultAs 10 = .ok (.getfield 19, 3) := by decide +kernel
theorem dX5_faultAs_13 : decode cX5_faultAs 13 = .ok (.iload_n 1, 1) := by decide +kernel
theorem dX5_faultAs_14 : decode cX5_faultAs 14 = .ok (.if_icmp .ne 7, 3) := by decide +kernel
theorem dX5_faultAs_17 : decode cX5_faultAs 17 = .ok (.iconst 0, 1) := by decide +kernel
theorem dX5_faultAs_18 : decode cX5_faultAs 18 = .ok (.goto 4, 3) := by decide +kernel
theorem dX5_faultAs_21 : decode cX5_faultAs 21 = .ok (.iconst 2, 1) := by decide +kernel
theorem dX5_faultAs_22 : decode cX5_faultAs 22 = .ok (.ireturn, 1) := by decide +kernel
set_option maxRecDepth 20000 in
theorem ggX5_faultOfCells_X5_faultAs : GoodIn wsX5_faultOfCells wsX5_faultAs := goodIn_r _ [5, 6, 7, 13, 14, 15, 16] (by decide +kernel) (by decide +kernel)
set_option maxRecDepth 20000 in
theorem gX5_faultOfCells_X5_faultAs : GoodIn wsX5_faultOfCells (wsV RX5 32 RX5 yX5_faultAs wsX5_faultAs) := goodIn_app (goodIn_of _ (by decide +kernel)) ggX5_faultOfCells_X5_faultAs
set_option maxRecDepth 20000 in
theorem ggX5_faultOfCells_X5_reaches : GoodIn wsX5_faultOfCells wsX5_reaches := goodIn_r _ [11, 12, 13, 14, 15, 16] (by decide +kernel) (by decide +kernel)
set_option maxRecDepth 20000 in
theorem gX5_faultOfCells_X5_reaches : GoodIn wsX5_faultOfCells (wsV RX5 36 RX5 yX5_reaches wsX5_reaches) := goodIn_app (goodIn_of _ (by decide +kernel)) ggX5_faultOfCells_X5_reaches
theorem dX5_faultOfCells_0 : decode cX5_faultOfCells 0 = .ok (.aload_n 0, 1) := by decide +kernel
theorem dX5_faultOfCells_1 : decode cX5_faultOfCells 1 = .ok (.iload_n 1, 1) := by decide +kernel
theorem dX5_faultOfCells_2 : decode cX5_faultOfCells 2 = .ok (.invokevirtual 32, 3) := by decide +kernel
theorem dX5_faultOfCells_5 : decode cX5_faultOfCells 5 = .ok (.istore 4, 2) := by decide +kernel
theorem dX5_faultOfCells_7 : decode cX5_faultOfCells 7 = .ok (.iload 4, 2) := by decide +kernel
theorem dX5_faultOfCells_9 : decode cX5_faultOfCells 9 = .ok (.ifCond .ne 15, 3) := by decide +kernel
theorem dX5_faultOfCells_12 : decode cX5_faultOfCells 12 = .ok (.aload_n 0, 1) := by decide +kernel
theorem dX5_faultOfCells_13 : decode cX5_faultOfCells 13 = .ok (.iload_n 2, 1) := by decide +kernel
theorem dX5_faultOfCells_14 : decode cX5_faultOfCells 14 = .ok (.iload_n 3, 1) := by decide +kernel
theorem dX5_faultOfCells_15 : decode cX5_faultOfCells 15 = .ok (.invokevirtual 36, 3) := by decide +kernel
theorem dX5_faultOfCells_18 : decode cX5_faultOfCells 18 = .ok (.ifCond .ne 6, 3) := by decide +kernel
theorem dX5_faultOfCells_21 : decode cX5_faultOfCells 21 = .ok (.iconst 3, 1) := by decide +kernel
theorem dX5_faultOfCells_22 : decode cX5_faultOfCells 22 = .ok (.istore 4, 2) := by decide +kernel
theorem dX5_faultOfCells_24 : decode cX5_faultOfCells 24 = .ok (.iload 4, 2) := by decide +kernel
theorem dX5_faultOfCells_26 : decode cX5_faultOfCells 26 = .ok (.ireturn, 1) := by decide +kernel
set_option maxRecDepth 20000 in
theorem ggX5_firstWrongCode_X7_isWithin : GoodIn wsX5_firstWrongCode wsX7_isWithin := goodIn_r _ [4] (by decide +kernel) (by decide +kernel)
set_option maxRecDepth 20000 in
theorem gX5_firstWrongCode_X7_isWithin_n40 : GoodIn wsX5_firstWrongCode (wsX7_isWithin) := ggX5_firstWrongCode_X7_isWithin
set_option maxRecDepth 20000 in
theorem ggX5_firstWrongCode_X5_firstWrongInRows : GoodIn wsX5_firstWrongCode wsX5_firstWrongInRows := goodIn_r _ [9, 1, 10, 11, 8, 12, 2, 3, 4, 13, 14, 15, 16] (by decide +kernel) (by decide +kernel)
set_option maxRecDepth 20000 in
theorem gX5_firstWrongCode_X5_firstWrongInRows : GoodIn wsX5_firstWrongCode (wsV RX5 44 RX5 yX5_firstWrongInRows wsX5_firstWrongInRows) := goodIn_app (goodIn_of _ (by decide +kernel)) ggX5_firstWrongCode_X5_firstWrongInRows
theorem dX5_firstWrongCode_0 : decode cX5_firstWrongCode 0 = .ok (.iload_n 2, 1) := by decide +kernel
theorem dX5_firstWrongCode_1 : decode cX5_firstWrongCode 1 = .ok (.iconst 1, 1) := by decide +kernel
theorem dX5_firstWrongCode_2 : decode cX5_firstWrongCode 2 = .ok (.if_icmp .lt 14, 3) := by decide +kernel
theorem dX5_firstWrongCode_5 : decode cX5_firstWrongCode 5 = .ok (.aload_n 0, 1) := by decide +kernel
theorem dX5_firstWrongCode_6 : decode cX5_firstWrongCode 6 = .ok (.getfield 9, 3) := by decide +kernel
theorem dX5_firstWrongCode_9 : decode cX5_firstWrongCode 9 = .ok (.iload_n 1, 1) := by decide +kernel
theorem dX5_firstWrongCode_10 : decode cX5_firstWrongCode 10 = .ok (.iaload, 1) := by decide +kernel
theorem dX5_firstWrongCode_11 : decode cX5_firstWrongCode 11 = .ok (.bipush 119, 2) := by decide +kernel
theorem dX5_firstWrongCode_13 : decode cX5_firstWrongCode 13 = .ok (.if_icmp .eq 5, 3) := by decide +kernel
theorem dX5_firstWrongCode_16 : decode cX5_firstWrongCode 16 = .ok (.iconst 0, 1) := by decide +kernel
theorem dX5_firstWrongCode_17 : decode cX5_firstWrongCode 17 = .ok (.ireturn, 1) := by decide +kernel
theorem dX5_firstWrongCode_18 : decode cX5_firstWrongCode 18 = .ok (.iload_n 2, 1) := by decide +kernel
theorem dX5_firstWrongCode_19 : decode cX5_firstWrongCode 19 = .ok (.iconst 2, 1) := by decide +kernel
theorem dX5_firstWrongCode_20 : decode cX5_firstWrongCode 20 = .ok (.if_icmp .lt 21, 3) := by decide +kernel
theorem dX5_firstWrongCode_23 : decode cX5_firstWrongCode 23 = .ok (.aload_n 0, 1) := by decide +kernel
theorem dX5_firstWrongCode_24 : decode cX5_firstWrongCode 24 = .ok (.getfield 9, 3) := by decide +kernel
theorem dX5_firstWrongCode_27 : decode cX5_firstWrongCode 27 = .ok (.iload_n 1, 1) := by decide +kernel
theorem dX5_firstWrongCode_28 : decode cX5_firstWrongCode 28 = .ok (.iconst 1, 1) := by decide +kernel
theorem dX5_firstWrongCode_29 : decode cX5_firstWrongCode 29 = .ok (.iadd, 1) := by decide +kernel
theorem dX5_firstWrongCode_30 : decode cX5_firstWrongCode 30 = .ok (.iaload, 1) := by decide +kernel
theorem dX5_firstWrongCode_31 : decode cX5_firstWrongCode 31 = .ok (.bipush 49, 2) := by decide +kernel
theorem dX5_firstWrongCode_33 : decode cX5_firstWrongCode 33 = .ok (.bipush 52, 2) := by decide +kernel
theorem dX5_firstWrongCode_35 : decode cX5_firstWrongCode 35 = .ok (.invokestatic 40, 3) := by decide +kernel
theorem dX5_firstWrongCode_38 : decode cX5_firstWrongCode 38 = .ok (.ifCond .ne 5, 3) := by decide +kernel
theorem dX5_firstWrongCode_41 : decode cX5_firstWrongCode 41 = .ok (.iconst 1, 1) := by decide +kernel
theorem dX5_firstWrongCode_42 : decode cX5_firstWrongCode 42 = .ok (.ireturn, 1) := by decide +kernel
theorem dX5_firstWrongCode_43 : decode cX5_firstWrongCode 43 = .ok (.iload_n 2, 1) := by decide +kernel
theorem dX5_firstWrongCode_44 : decode cX5_firstWrongCode 44 = .ok (.iconst 3, 1) := by decide +kernel
theorem dX5_firstWrongCode_45 : decode cX5_firstWrongCode 45 = .ok (.if_icmp .lt 21, 3) := by decide +kernel
theorem dX5_firstWrongCode_48 : decode cX5_firstWrongCode 48 = .ok (.aload_n 0, 1) := by decide +kernel
theorem dX5_firstWrongCode_49 : decode cX5_firstWrongCode 49 = .ok (.getfield 9, 3) := by decide +kernel
theorem dX5_firstWrongCode_52 : decode cX5_firstWrongCode 52 = .ok (.iload_n 1, 1) := by decide +kernel
theorem dX5_firstWrongCode_53 : decode cX5_firstWrongCode 53 = .ok (.iconst 2, 1) := by decide +kernel
theorem dX5_firstWrongCode_54 : decode cX5_firstWrongCode 54 = .ok (.iadd, 1) := by decide +kernel
theorem dX5_firstWrongCode_55 : decode cX5_firstWrongCode 55 = .ok (.iaload, 1) := by decide +kernel
theorem dX5_firstWrongCode_56 : decode cX5_firstWrongCode 56 = .ok (.bipush 50, 2) := by decide +kernel
theorem dX5_firstWrongCode_58 : decode cX5_firstWrongCode 58 = .ok (.bipush 54, 2) := by decide +kernel
theorem dX5_firstWrongCode_60 : decode cX5_firstWrongCode 60 = .ok (.invokestatic 40, 3) := by decide +kernel
theorem dX5_firstWrongCode_63 : decode cX5_firstWrongCode 63 = .ok (.ifCond .ne 5, 3) := by decide +kernel
theorem dX5_firstWrongCode_66 : decode cX5_firstWrongCode 66 = .ok (.iconst 2, 1) := by decide +kernel
theorem dX5_firstWrongCode_67 : decode cX5_firstWrongCode 67 = .ok (.ireturn, 1) := by decide +kernel
theorem dX5_firstWrongCode_68 : decode cX5_firstWrongCode 68 = .ok (.aload_n 0, 1) := by decide +kernel
theorem dX5_firstWrongCode_69 : decode cX5_firstWrongCode 69 = .ok (.iload_n 1, 1) := by decide +kernel
theorem dX5_firstWrongCode_70 : decode cX5_firstWrongCode 70 = .ok (.iload_n 2, 1) := by decide +kernel
theorem dX5_firstWrongCode_71 : decode cX5_firstWrongCode 71 = .ok (.aload_n 0, 1) := by decide +kernel
theorem dX5_firstWrongCode_72 : decode cX5_firstWrongCode 72 = .ok (.getfield 9, 3) := by decide +kernel
theorem dX5_firstWrongCode_75 : decode cX5_firstWrongCode 75 = .ok (.iload_n 1, 1) := by decide +kernel
theorem dX5_firstWrongCode_76 : decode cX5_firstWrongCode 76 = .ok (.iconst 1, 1) := by decide +kernel
theorem dX5_firstWrongCode_77 : decode cX5_firstWrongCode 77 = .ok (.iadd, 1) := by decide +kernel
theorem dX5_firstWrongCode_78 : decode cX5_firstWrongCode 78 = .ok (.iaload, 1) := by decide +kernel
theorem dX5_firstWrongCode_79 : decode cX5_firstWrongCode 79 = .ok (.bipush 48, 2) := by decide +kernel
theorem dX5_firstWrongCode_81 : decode cX5_firstWrongCode 81 = .ok (.isub, 1) := by decide +kernel
theorem dX5_firstWrongCode_82 : decode cX5_firstWrongCode 82 = .ok (.aload_n 0, 1) := by decide +kernel
theorem dX5_firstWrongCode_83 : decode cX5_firstWrongCode 83 = .ok (.getfield 9, 3) := by decide +kernel
theorem dX5_firstWrongCode_86 : decode cX5_firstWrongCode 86 = .ok (.iload_n 1, 1) := by decide +kernel
theorem dX5_firstWrongCode_87 : decode cX5_firstWrongCode 87 = .ok (.iconst 2, 1) := by decide +kernel
theorem dX5_firstWrongCode_88 : decode cX5_firstWrongCode 88 = .ok (.iadd, 1) := by decide +kernel
theorem dX5_firstWrongCode_89 : decode cX5_firstWrongCode 89 = .ok (.iaload, 1) := by decide +kernel
theorem dX5_firstWrongCode_90 : decode cX5_firstWrongCode 90 = .ok (.bipush 48, 2) := by decide +kernel
theorem dX5_firstWrongCode_92 : decode cX5_firstWrongCode 92 = .ok (.isub, 1) := by decide +kernel
theorem dX5_firstWrongCode_93 : decode cX5_firstWrongCode 93 = .ok (.invokevirtual 44, 3) := by decide +kernel
theorem dX5_firstWrongCode_96 : decode cX5_firstWrongCode 96 = .ok (.ireturn, 1) := by decide +kernel
set_option maxRecDepth 20000 in
theorem ggX5_firstWrongInRows_X5_fits : GoodIn wsX5_firstWrongInRows wsX5_fits := goodIn_r _ [5, 6, 7, 8] (by decide +kernel) (by decide +kernel)
set_option maxRecDepth 20000 in
theorem gX5_firstWrongInRows_X5_fits : GoodIn wsX5_firstWrongInRows (va_wsS RX5 48 yX5_fits wsX5_fits) := goodIn_app (goodIn_of _ (by decide +kernel)) ggX5_firstWrongInRows_X5_fits
theorem dX5_firstWrongInRows_0 : decode cX5_firstWrongInRows 0 = .ok (.iconst 3, 1) := by decide +kernel
theorem dX5_firstWrongInRows_1 : decode cX5_firstWrongInRows 1 = .ok (.istore 5, 2) := by decide +kernel
theorem dX5_firstWrongInRows_3 : decode cX5_firstWrongInRows 3 = .ok (.iconst 0, 1) := by decide +kernel
theorem dX5_firstWrongInRows_4 : decode cX5_firstWrongInRows 4 = .ok (.istore 6, 2) := by decide +kernel
theorem dX5_firstWrongInRows_6 : decode cX5_firstWrongInRows 6 = .ok (.iload 6, 2) := by decide +kernel
theorem dX5_firstWrongInRows_8 : decode cX5_firstWrongInRows 8 = .ok (.iload_n 3, 1) := by decide +kernel
theorem dX5_firstWrongInRows_9 : decode cX5_firstWrongInRows 9 = .ok (.if_icmp .ge 54, 3) := by decide +kernel
theorem dX5_firstWrongInRows_12 : decode cX5_firstWrongInRows 12 = .ok (.iconst (-1), 1) := by decide +kernel
theorem dX5_firstWrongInRows_13 : decode cX5_firstWrongInRows 13 = .ok (.istore 7, 2) := by decide +kernel
theorem dX5_firstWrongInRows_15 : decode cX5_firstWrongInRows 15 = .ok (.iload 7, 2) := by decide +kernel
theorem dX5_firstWrongInRows_17 : decode cX5_firstWrongInRows 17 = .ok (.iload 4, 2) := by decide +kernel
theorem dX5_firstWrongInRows_19 : decode cX5_firstWrongInRows 19 = .ok (.if_icmp .ge 38, 3) := by decide +kernel
theorem dX5_firstWrongInRows_22 : decode cX5_firstWrongInRows 22 = .ok (.iload 5, 2) := by decide +kernel
theorem dX5_firstWrongInRows_24 : decode cX5_firstWrongInRows 24 = .ok (.iload_n 2, 1) := by decide +kernel
theorem dX5_firstWrongInRows_25 : decode cX5_firstWrongInRows 25 = .ok (.if_icmp .ge 20, 3) := by decide +kernel
theorem dX5_firstWrongInRows_28 : decode cX5_firstWrongInRows 28 = .ok (.aload_n 0, 1) := by decide +kernel
theorem dX5_firstWrongInRows_29 : decode cX5_firstWrongInRows 29 = .ok (.getfield 9, 3) := by decide +kernel
theorem dX5_firstWrongInRows_32 : decode cX5_firstWrongInRows 32 = .ok (.iload_n 1, 1) := by decide +kernel
theorem dX5_firstWrongInRows_33 : decode cX5_firstWrongInRows 33 = .ok (.iload 5, 2) := by decide +kernel
theorem dX5_firstWrongInRows_35 : decode cX5_firstWrongInRows 35 = .ok (.iadd, 1) := by decide +kernel
theorem dX5_firstWrongInRows_36 : decode cX5_firstWrongInRows 36 = .ok (.iaload, 1) := by decide +kernel
theorem dX5_firstWrongInRows_37 : decode cX5_firstWrongInRows 37 = .ok (.iload 7, 2) := by decide +kernel
theorem dX5_firstWrongInRows_39 : decode cX5_firstWrongInRows 39 = .ok (.invokestatic 48, 3) := by decide +kernel
theorem dX5_firstWrongInRows_42 : decode cX5_firstWrongInRows 42 = .ok (.ifCond .ne 6, 3) := by decide +kernel
theorem dX5_firstWrongInRows_45 : decode cX5_firstWrongInRows 45 = .ok (.iload 5, 2) := by decide +kernel
theorem dX5_firstWrongInRows_47 : decode cX5_firstWrongInRows 47 = .ok (.ireturn, 1) := by decide +kernel
theorem dX5_firstWrongInRows_48 : decode cX5_firstWrongInRows 48 = .ok (.iinc 5 1, 3) := by decide +kernel
theorem dX5_firstWrongInRows_51 : decode cX5_firstWrongInRows 51 = .ok (.iinc 7 1, 3) := by decide +kernel
theorem dX5_firstWrongInRows_54 : decode cX5_firstWrongInRows 54 = .ok (.goto (-39), 3) := by decide +kernel
theorem dX5_firstWrongInRows_57 : decode cX5_firstWrongInRows 57 = .ok (.iinc 6 1, 3) := by decide +kernel
theorem dX5_firstWrongInRows_60 : decode cX5_firstWrongInRows 60 = .ok (.goto (-54), 3) := by decide +kernel
theorem dX5_firstWrongInRows_63 : decode cX5_firstWrongInRows 63 = .ok (.iload 5, 2) := by decide +kernel
theorem dX5_firstWrongInRows_65 : decode cX5_firstWrongInRows 65 = .ok (.iload_n 2, 1) := by decide +kernel
theorem dX5_firstWrongInRows_66 : decode cX5_firstWrongInRows 66 = .ok (.if_icmp .ge 8, 3) := by decide +kernel
theorem dX5_firstWrongInRows_69 : decode cX5_firstWrongInRows 69 = .ok (.iload 5, 2) := by decide +kernel
theorem dX5_firstWrongInRows_71 : decode cX5_firstWrongInRows 71 = .ok (.goto 4, 3) := by decide +kernel
theorem dX5_firstWrongInRows_74 : decode cX5_firstWrongInRows 74 = .ok (.iconst (-1), 1) := by decide +kernel
theorem dX5_firstWrongInRows_75 : decode cX5_firstWrongInRows 75 = .ok (.ireturn, 1) := by decide +kernel
set_option maxRecDepth 20000 in
theorem ggX5_fits_X7_isWithin : GoodIn wsX5_fits wsX7_isWithin := goodIn_r _ [3] (by decide +kernel) (by decide +kernel)
set_option maxRecDepth 20000 in
theorem gX5_fits_X7_isWithin_n40 : GoodIn wsX5_fits (wsX7_isWithin) := ggX5_fits_X7_isWithin
theorem dX5_fits_0 : decode cX5_fits 0 = .ok (.iload_n 1, 1) := by decide +kernel
theorem dX5_fits_1 : decode cX5_fits 1 = .ok (.ifCond .ge 17, 3) := by decide +kernel
theorem dX5_fits_4 : decode cX5_fits 4 = .ok (.iload_n 0, 1) := by decide +kernel
theorem dX5_fits_5 : decode cX5_fits 5 = .ok (.bipush 59, 2) := by decide +kernel
theorem dX5_fits_7 : decode cX5_fits 7 = .ok (.if_icmp .ne 7, 3) := by decide +kernel
theorem dX5_fits_10 : decode cX5_fits 10 = .ok (.iconst 1, 1) := by decide +kernel
theorem dX5_fits_11 : decode cX5_fits 11 = .ok (.goto 15, 3) := by decide +kernel
theorem dX5_fits_14 : decode cX5_fits 14 = .ok (.iconst 0, 1) := by decide +kernel
theorem dX5_fits_15 : decode cX5_fits 15 = .ok (.goto 11, 3) := by decide +kernel
theorem dX5_fits_18 : decode cX5_fits 18 = .ok (.iload_n 0, 1) := by decide +kernel
theorem dX5_fits_19 : decode cX5_fits 19 = .ok (.bipush 48, 2) := by decide +kernel
theorem dX5_fits_21 : decode cX5_fits 21 = .ok (.bipush 57, 2) := by decide +kernel
theorem dX5_fits_23 : decode cX5_fits 23 = .ok (.invokestatic 40, 3) := by decide +kernel
theorem dX5_fits_26 : decode cX5_fits 26 = .ok (.ireturn, 1) := by decide +kernel
set_option maxRecDepth 20000 in
theorem ggX6_init_X0_init : GoodIn wsX6_init wsX0_init := goodIn_r _ [15, 16, 2, 3] (by decide +kernel) (by decide +kernel)
set_option maxRecDepth 20000 in
theorem gX6_init_X0_init_n27 : GoodIn wsX6_init (wsX0_init) := ggX6_init_X0_init
set_option maxRecDepth 20000 in
theorem ggX6_init_X1_init : GoodIn wsX6_init wsX1_init := goodIn_r _ [18, 19, 2, 3, 8, 20, 37, 38] (by decide +kernel) (by decide +kernel)
set_option maxRecDepth 20000 in
theorem gX6_init_X1_init_n28 : GoodIn wsX6_init (wsX1_init) := ggX6_init_X1_init
theorem dX6_init_0 : decode cX6_init 0 = .ok (.aload_n 0, 1) := by decide +kernel
theorem dX6_init_1 : decode cX6_init 1 = .ok (.invokespecial 3, 3) := by decide +kernel
theorem dX6_init_4 : decode cX6_init 4 = .ok (.aload_n 0, 1) := by decide +kernel
theorem dX6_init_5 : decode cX6_init 5 = .ok (.bipush 24, 2) := by decide +kernel
theorem dX6_init_7 : decode cX6_init 7 = .ok (.anewarray 9, 3) := by decide +kernel
theorem dX6_init_10 : decode cX6_init 10 = .ok (.putfield 11, 3) := by decide +kernel
theorem dX6_init_13 : decode cX6_init 13 = .ok (.aload_n 0, 1) := by decide +kernel
theorem dX6_init_14 : decode cX6_init 14 = .ok (.bipush 6, 2) := by decide +kernel
theorem dX6_init_16 : decode cX6_init 16 = .ok (.anewarray 17, 3) := by decide +kernel
theorem dX6_init_19 : decode cX6_init 19 = .ok (.putfield 19, 3) := by decide +kernel
theorem dX6_init_22 : decode cX6_init 22 = .ok (.aload_n 0, 1) := by decide +kernel
theorem dX6_init_23 : decode cX6_init 23 = .ok (.bipush 12, 2) := by decide +kernel
theorem dX6_init_25 : decode cX6_init 25 = .ok (.newarray .int, 2) := by decide +kernel
theorem dX6_init_27 : decode cX6_init 27 = .ok (.putfield 23, 3) := by decide +kernel
theorem dX6_init_30 : decode cX6_init 30 = .ok (.iconst 0, 1) := by decide +kernel
theorem dX6_init_31 : decode cX6_init 31 = .ok (.istore_n 1, 1) := by decide +kernel
theorem dX6_init_32 : decode cX6_init 32 = .ok (.iload_n 1, 1) := by decide +kernel
theorem dX6_init_33 : decode cX6_init 33 = .ok (.bipush 24, 2) := by decide +kernel
theorem dX6_init_35 : decode cX6_init 35 = .ok (.if_icmp .ge 22, 3) := by decide +kernel
theorem dX6_init_38 : decode cX6_init 38 = .ok (.aload_n 0, 1) := by decide +kernel
theorem dX6_init_39 : decode cX6_init 39 = .ok (.getfield 11, 3) := by decide +kernel
theorem dX6_init_42 : decode cX6_init 42 = .ok (.iload_n 1, 1) := by decide +kernel
theorem dX6_init_43 : decode cX6_init 43 = .ok (.new 9, 3) := by decide +kernel
theorem dX6_init_46 : decode cX6_init 46 = .ok (.dup, 1) := by decide +kernel
theorem dX6_init_47 : decode cX6_init 47 = .ok (.invokespecial 27, 3) := by decide +kernel
theorem dX6_init_50 : decode cX6_init 50 = .ok (.aastore, 1) := by decide +kernel
theorem dX6_init_51 : decode cX6_init 51 = .ok (.iinc 1 1, 3) := by decide +kernel
theorem dX6_init_54 : decode cX6_init 54 = .ok (.goto (-22), 3) := by decide +kernel
theorem dX6_init_57 : decode cX6_init 57 = .ok (.iconst 0, 1) := by decide +kernel
theorem dX6_init_58 : decode cX6_init 58 = .ok (.istore_n 1, 1) := by decide +kernel
theorem dX6_init_59 : decode cX6_init 59 = .ok (.iload_n 1, 1) := by decide +kernel
theorem dX6_init_60 : decode cX6_init 60 = .ok (.bipush 6, 2) := by decide +kernel
theorem dX6_init_62 : decode cX6_init 62 = .ok (.if_icmp .ge 22, 3) := by decide +kernel
theorem dX6_init_65 : decode cX6_init 65 = .ok (.aload_n 0, 1) := by decide +kernel
theorem dX6_init_66 : decode cX6_init 66 = .ok (.getfield 19, 3) := by decide +kernel
theorem dX6_init_69 : decode cX6_init 69 = .ok (.iload_n 1, 1) := by decide +kernel
theorem dX6_init_70 : decode cX6_init 70 = .ok (.new 17, 3) := by decide +kernel
theorem dX6_init_73 : decode cX6_init 73 = .ok (.dup, 1) := by decide +kernel
theorem dX6_init_74 : decode cX6_init 74 = .ok (.invokespecial 28, 3) := by decide +kernel
theorem dX6_init_77 : decode cX6_init 77 = .ok (.aastore, 1) := by decide +kernel
theorem dX6_init_78 : decode cX6_init 78 = .ok (.iinc 1 1, 3) := by decide +kernel
theorem dX6_init_81 : decode cX6_init 81 = .ok (.goto (-22), 3) := by decide +kernel
theorem dX6_init_84 : decode cX6_init 84 = .ok (.return_, 1) := by decide +kernel
set_option maxRecDepth 20000 in
theorem ggX6_makeAnew_X0_begin : GoodIn wsX6_makeAnew wsX0_begin := goodIn_r _ [15, 16, 17, 18, 19, 20, 14, 21, 22, 23, 24, 48, 49, 50, 51, 52] (by decide +kernel) (by decide +kernel)
set_option maxRecDepth 20000 in
theorem gX6_makeAnew_X0_begin : GoodIn wsX6_makeAnew (wsV RX6 44 RX0 yX0_begin wsX0_begin) := goodIn_app (goodIn_of _ (by decide +kernel)) ggX6_makeAnew_X0_begin
set_option maxRecDepth 20000 in
theorem ggX6_makeAnew_X6_addCoat : GoodIn wsX6_makeAnew wsX6_addCoat := goodIn_r _ [29, 30, 10, 31, 32, 37, 38, 39, 40, 41, 42, 43, 44, 45, 46, 47, 53, 54] (by decide +kernel) (by decide +kernel)
set_option maxRecDepth 20000 in
theorem gX6_makeAnew_X6_addCoat : GoodIn wsX6_makeAnew (wsV RX6 63 RX6 yX6_addCoat wsX6_addCoat) := goodIn_app (goodIn_of _ (by decide +kernel)) ggX6_makeAnew_X6_addCoat
theorem dX6_makeAnew_0 : decode cX6_makeAnew 0 = .ok (.aload_n 0, 1) := by decide +kernel
theorem dX6_makeAnew_1 : decode cX6_makeAnew 1 = .ok (.aload_n 1, 1) := by decide +kernel
theorem dX6_makeAnew_2 : decode cX6_makeAnew 2 = .ok (.getfield 29, 3) := by decide +kernel
theorem dX6_makeAnew_5 : decode cX6_makeAnew 5 = .ok (.iload_n 2, 1) := by decide +kernel
theorem dX6_makeAnew_6 : decode cX6_makeAnew 6 = .ok (.iconst 1, 1) := by decide +kernel
theorem dX6_makeAnew_7 : decode cX6_makeAnew 7 = .ok (.iadd, 1) := by decide +kernel
theorem dX6_makeAnew_8 : decode cX6_makeAnew 8 = .ok (.iaload, 1) := by decide +kernel
theorem dX6_makeAnew_9 : decode cX6_makeAnew 9 = .ok (.bipush 48, 2) := by decide +kernel
theorem dX6_makeAnew_11 : decode cX6_makeAnew 11 = .ok (.isub, 1) := by decide +kernel
theorem dX6_makeAnew_12 : decode cX6_makeAnew 12 = .ok (.putfield 34, 3) := by decide +kernel
theorem dX6_makeAnew_15 : decode cX6_makeAnew 15 = .ok (.aload_n 0, 1) := by decide +kernel
theorem dX6_makeAnew_16 : decode cX6_makeAnew 16 = .ok (.aload_n 1, 1) := by decide +kernel
theorem dX6_makeAnew_17 : decode cX6_makeAnew 17 = .ok (.getfield 29, 3) := by decide +kernel
theorem dX6_makeAnew_20 : decode cX6_makeAnew 20 = .ok (.iload_n 2, 1) := by decide +kernel
theorem dX6_makeAnew_21 : decode cX6_makeAnew 21 = .ok (.iconst 2, 1) := by decide +kernel
theorem dX6_makeAnew_22 : decode cX6_makeAnew 22 = .ok (.iadd, 1) := by decide +kernel
theorem dX6_makeAnew_23 : decode cX6_makeAnew 23 = .ok (.iaload, 1) := by decide +kernel
theorem dX6_makeAnew_24 : decode cX6_makeAnew 24 = .ok (.bipush 48, 2) := by decide +kernel
theorem dX6_makeAnew_26 : decode cX6_makeAnew 26 = .ok (.isub, 1) := by decide +kernel
theorem dX6_makeAnew_27 : decode cX6_makeAnew 27 = .ok (.putfield 38, 3) := by decide +kernel
theorem dX6_makeAnew_30 : decode cX6_makeAnew 30 = .ok (.aload_n 0, 1) := by decide +kernel
theorem dX6_makeAnew_31 : decode cX6_makeAnew 31 = .ok (.aload_n 0, 1) := by decide +kernel
theorem dX6_makeAnew_32 : decode cX6_makeAnew 32 = .ok (.getfield 34, 3) := by decide +kernel
theorem dX6_makeAnew_35 : decode cX6_makeAnew 35 = .ok (.aload_n 0, 1) := by decide +kernel
theorem dX6_makeAnew_36 : decode cX6_makeAnew 36 = .ok (.getfield 38, 3) := by decide +kernel
theorem dX6_makeAnew_39 : decode cX6_makeAnew 39 = .ok (.imul, 1) := by decide +kernel
theorem dX6_makeAnew_40 : decode cX6_makeAnew 40 = .ok (.putfield 41, 3) := by decide +kernel
theorem dX6_makeAnew_43 : decode cX6_makeAnew 43 = .ok (.iload_n 2, 1) := by decide +kernel
theorem dX6_makeAnew_44 : decode cX6_makeAnew 44 = .ok (.iconst 3, 1) := by decide +kernel
theorem dX6_makeAnew_45 : decode cX6_makeAnew 45 = .ok (.iadd, 1) := by decide +kernel
theorem dX6_makeAnew_46 : decode cX6_makeAnew 46 = .ok (.istore_n 3, 1) := by decide +kernel
theorem dX6_makeAnew_47 : decode cX6_makeAnew 47 = .ok (.iconst 0, 1) := by decide +kernel
theorem dX6_makeAnew_48 : decode cX6_makeAnew 48 = .ok (.istore 4, 2) := by decide +kernel
theorem dX6_makeAnew_50 : decode cX6_makeAnew 50 = .ok (.iload 4, 2) := by decide +kernel
theorem dX6_makeAnew_52 : decode cX6_makeAnew 52 = .ok (.aload_n 0, 1) := by decide +kernel
theorem dX6_makeAnew_53 : decode cX6_makeAnew 53 = .ok (.getfield 34, 3) := by decide +kernel
theorem dX6_makeAnew_56 : decode cX6_makeAnew 56 = .ok (.if_icmp .ge 60, 3) := by decide +kernel
theorem dX6_makeAnew_59 : decode cX6_makeAnew 59 = .ok (.iinc 3 1, 3) := by decide +kernel
theorem dX6_makeAnew_62 : decode cX6_makeAnew 62 = .ok (.iconst 0, 1) := by decide +kernel
theorem dX6_makeAnew_63 : decode cX6_makeAnew 63 = .ok (.istore 5, 2) := by decide +kernel
theorem dX6_makeAnew_65 : decode cX6_makeAnew 65 = .ok (.iload 5, 2) := by decide +kernel
theorem dX6_makeAnew_67 : decode cX6_makeAnew 67 = .ok (.aload_n 0, 1) := by decide +kernel
theorem dX6_makeAnew_68 : decode cX6_makeAnew 68 = .ok (.getfield 38, 3) := by decide +kernel
theorem dX6_makeAnew_71 : decode cX6_makeAnew 71 = .ok (.if_icmp .ge 39, 3) := by decide +kernel
theorem dX6_makeAnew_74 : decode cX6_makeAnew 74 = .ok (.aload_n 0, 1) := by decide +kernel
theorem dX6_makeAnew_75 : decode cX6_makeAnew 75 = .ok (.getfield 11, 3) := by decide +kernel
theorem dX6_makeAnew_78 : decode cX6_makeAnew 78 = .ok (.iload 4, 2) := by decide +kernel
theorem dX6_makeAnew_80 : decode cX6_makeAnew 80 = .ok (.aload_n 0, 1) := by decide +kernel
theorem dX6_makeAnew_81 : decode cX6_makeAnew 81 = .ok (.getfield 38, 3) := by decide +kernel
theorem dX6_makeAnew_84 : decode cX6_makeAnew 84 = .ok (.imul, 1) := by decide +kernel
theorem dX6_makeAnew_85 : decode cX6_makeAnew 85 = .ok (.iload 5, 2) := by decide +kernel
theorem dX6_makeAnew_87 : decode cX6_makeAnew 87 = .ok (.iadd, 1) := by decide +kernel
theorem dX6_makeAnew_88 : decode cX6_makeAnew 88 = .ok (.aaload, 1) := by decide +kernel
theorem dX6_makeAnew_89 : decode cX6_makeAnew 89 = .ok (.aload_n 1, 1) := by decide +kernel
theorem dX6_makeAnew_90 : decode cX6_makeAnew 90 = .ok (.getfield 29, 3) := by decide +kernel
theorem dX6_makeAnew_93 : decode cX6_makeAnew 93 = .ok (.iload_n 3, 1) := by decide +kernel
theorem dX6_makeAnew_94 : decode cX6_makeAnew 94 = .ok (.iaload, 1) := by decide +kernel
theorem dX6_makeAnew_95 : decode cX6_makeAnew 95 = .ok (.bipush 48, 2) := by decide +kernel
theorem dX6_makeAnew_97 : decode cX6_makeAnew 97 = .ok (.isub, 1) := by decide +kernel
theorem dX6_makeAnew_98 : decode cX6_makeAnew 98 = .ok (.invokevirtual 44, 3) := by decide +kernel
theorem dX6_makeAnew_101 : decode cX6_makeAnew 101 = .ok (.iinc 3 1, 3) := by decide +kernel
theorem dX6_makeAnew_104 : decode cX6_makeAnew 104 = .ok (.iinc 5 1, 3) := by decide +kernel
theorem dX6_makeAnew_107 : decode cX6_makeAnew 107 = .ok (.goto (-42), 3) := by decide +kernel
theorem dX6_makeAnew_110 : decode cX6_makeAnew 110 = .ok (.iinc 4 1, 3) := by decide +kernel
theorem dX6_makeAnew_113 : decode cX6_makeAnew 113 = .ok (.goto (-63), 3) := by decide +kernel
theorem dX6_makeAnew_116 : decode cX6_makeAnew 116 = .ok (.aload_n 0, 1) := by decide +kernel
theorem dX6_makeAnew_117 : decode cX6_makeAnew 117 = .ok (.iconst 0, 1) := by decide +kernel
theorem dX6_makeAnew_118 : decode cX6_makeAnew 118 = .ok (.putfield 48, 3) := by decide +kernel
theorem dX6_makeAnew_121 : decode cX6_makeAnew 121 = .ok (.aload_n 0, 1) := by decide +kernel
theorem dX6_makeAnew_122 : decode cX6_makeAnew 122 = .ok (.iconst 0, 1) := by decide +kernel
theorem dX6_makeAnew_123 : decode cX6_makeAnew 123 = .ok (.putfield 51, 3) := by decide +kernel
theorem dX6_makeAnew_126 : decode cX6_makeAnew 126 = .ok (.aload_n 0, 1) := by decide +kernel
theorem dX6_makeAnew_127 : decode cX6_makeAnew 127 = .ok (.bipush 10, 2) := by decide +kernel
theorem dX6_makeAnew_129 : decode cX6_makeAnew 129 = .ok (.putfield 54, 3) := by decide +kernel
theorem dX6_makeAnew_132 : decode cX6_makeAnew 132 = .ok (.aload_n 0, 1) := by decide +kernel
theorem dX6_makeAnew_133 : decode cX6_makeAnew 133 = .ok (.iconst 0, 1) := by decide +kernel
theorem dX6_makeAnew_134 : decode cX6_makeAnew 134 = .ok (.putfield 57, 3) := by decide +kernel
theorem dX6_makeAnew_137 : decode cX6_makeAnew 137 = .ok (.aload_n 0, 1) := by decide +kernel
theorem dX6_makeAnew_138 : decode cX6_makeAnew 138 = .ok (.iconst 0, 1) := by decide +kernel
theorem dX6_makeAnew_139 : decode cX6_makeAnew 139 = .ok (.putfield 60, 3) := by decide +kernel
theorem dX6_makeAnew_142 : decode cX6_makeAnew 142 = .ok (.aload_n 0, 1) := by decide +kernel
theorem dX6_makeAnew_143 : decode cX6_makeAnew 143 = .ok (.iconst 0, 1) := by decide +kernel
theorem dX6_makeAnew_144 : decode cX6_makeAnew 144 = .ok (.bipush 90, 2) := by decide +kernel
theorem dX6_makeAnew_146 : decode cX6_makeAnew 146 = .ok (.bipush 90, 2) := by decide +kernel
theorem dX6_makeAnew_148 : decode cX6_makeAnew 148 = .ok (.bipush 90, 2) := by decide +kernel
theorem dX6_makeAnew_150 : decode cX6_makeAnew 150 = .ok (.invokevirtual 63, 3) := by decide +kernel
theorem dX6_makeAnew_153 : decode cX6_makeAnew 153 = .ok (.pop, 1) := by decide +kernel
theorem dX6_makeAnew_154 : decode cX6_makeAnew 154 = .ok (.return_, 1) := by decide +kernel
theorem dX6_stands_0 : decode cX6_stands 0 = .ok (.aload_n 0, 1) := by decide +kernel
theorem dX6_stands_1 : decode cX6_stands 1 = .ok (.getfield 41, 3) := by decide +kernel
theorem dX6_stands_4 : decode cX6_stands 4 = .ok (.ifCond .le 7, 3) := by decide +kernel
theorem dX6_stands_7 : decode cX6_stands 7 = .ok (.iconst 1, 1) := by decide +kernel
theorem dX6_stands_8 : decode cX6_stands 8 = .ok (.goto 4, 3) := by decide +kernel
theorem dX6_stands_11 : decode cX6_stands 11 = .ok (.iconst 0, 1) := by decide +kernel
theorem dX6_stands_12 : decode cX6_stands 12 = .ok (.ireturn, 1) := by decide +kernel
theorem dX6_columnOf_0 : decode cX6_columnOf 0 = .ok (.aload_n 0, 1) := by decide +kernel
theorem dX6_columnOf_1 : decode cX6_columnOf 1 = .ok (.getfield 38, 3) := by decide +kernel
theorem dX6_columnOf_4 : decode cX6_columnOf 4 = .ok (.iconst 1, 1) := by decide +kernel
theorem dX6_columnOf_5 : decode cX6_columnOf 5 = .ok (.if_icmp .ge 7, 3) := by decide +kernel
theorem dX6_columnOf_8 : decode cX6_columnOf 8 = .ok (.iconst 0, 1) := by decide +kernel
theorem dX6_columnOf_9 : decode cX6_columnOf 9 = .ok (.goto 9, 3) := by decide +kernel
theorem dX6_columnOf_12 : decode cX6_columnOf 12 = .ok (.iload_n 1, 1) := by decide +kernel
theorem dX6_columnOf_13 : decode cX6_columnOf 13 = .ok (.aload_n 0, 1) := by decide +kernel
theorem dX6_columnOf_14 : decode cX6_columnOf 14 = .ok (.getfield 38, 3) := by decide +kernel
theorem dX6_columnOf_17 : decode cX6_columnOf 17 = .ok (.irem, 1) := by decide +kernel
theorem dX6_columnOf_18 : decode cX6_columnOf 18 = .ok (.ireturn, 1) := by decide +kernel
theorem dX6_rowOf_0 : decode cX6_rowOf 0 = .ok (.aload_n 0, 1) := by decide +kernel
theorem dX6_rowOf_1 : decode cX6_rowOf 1 = .ok (.getfield 38, 3) := by decide +kernel
theorem dX6_rowOf_4 : decode cX6_rowOf 4 = .ok (.iconst 1, 1) := by decide +kernel
theorem dX6_rowOf_5 : decode cX6_rowOf 5 = .ok (.if_icmp .ge 7, 3) := by decide +kernel
theorem dX6_rowOf_8 : decode cX6_rowOf 8 = .ok (.iconst 0, 1) := by decide +kernel
theorem dX6_rowOf_9 : decode cX6_rowOf 9 = .ok (.goto 9, 3) := by decide +kernel
theorem dX6_rowOf_12 : decode cX6_rowOf 12 = .ok (.iload_n 1, 1) := by decide +kernel
theorem dX6_rowOf_13 : decode cX6_rowOf 13 = .ok (.aload_n 0, 1) := by decide +kernel
theorem dX6_rowOf_14 : decode cX6_rowOf 14 = .ok (.getfield 38, 3) := by decide +kernel
theorem dX6_rowOf_17 : decode cX6_rowOf 17 = .ok (.idiv, 1) := by decide +kernel
theorem dX6_rowOf_18 : decode cX6_rowOf 18 = .ok (.ireturn, 1) := by decide +kernel
theorem dX6_hasCell_0 : decode cX6_hasCell 0 = .ok (.iload_n 1, 1) := by decide +kernel
theorem dX6_hasCell_1 : decode cX6_hasCell 1 = .ok (.ifCond .lt 15, 3) := by decide +kernel
theorem dX6_hasCell_4 : decode cX6_hasCell 4 = .ok (.iload_n 1, 1) := by decide +kernel
theorem dX6_hasCell_5 : decode cX6_hasCell 5 = .ok (.aload_n 0, 1) := by decide +kernel
theorem dX6_hasCell_6 : decode cX6_hasCell 6 = .ok (.getfield 41, 3) := by decide +kernel
theorem dX6_hasCell_9 : decode cX6_hasCell 9 = .ok (.if_icmp .ge 7, 3) := by decide +kernel
theorem dX6_hasCell_12 : decode cX6_hasCell 12 = .ok (.iconst 1, 1) := by decide +kernel
theorem dX6_hasCell_13 : decode cX6_hasCell 13 = .ok (.goto 4, 3) := by decide +kernel
theorem dX6_hasCell_16 : decode cX6_hasCell 16 = .ok (.iconst 0, 1) := by decide +kernel
theorem dX6_hasCell_17 : decode cX6_hasCell 17 = .ok (.ireturn, 1) := by decide +kernel
theorem dX6_hasCoat_0 : decode cX6_hasCoat 0 = .ok (.iload_n 1, 1) := by decide +kernel
theorem dX6_hasCoat_1 : decode cX6_hasCoat 1 = .ok (.ifCond .lt 15, 3) := by decide +kernel
theorem dX6_hasCoat_4 : decode cX6_hasCoat 4 = .ok (.iload_n 1, 1) := by decide +kernel
theorem dX6_hasCoat_5 : decode cX6_hasCoat 5 = .ok (.aload_n 0, 1) := by decide +kernel
theorem dX6_hasCoat_6 : decode cX6_hasCoat 6 = .ok (.getfield 60, 3) := by decide +kernel
theorem dX6_hasCoat_9 : decode cX6_hasCoat 9 = .ok (.if_icmp .ge 7, 3) := by decide +kernel
theorem dX6_hasCoat_12 : decode cX6_hasCoat 12 = .ok (.iconst 1, 1) := by decide +kernel
theorem dX6_hasCoat_13 : decode cX6_hasCoat 13 = .ok (.goto 4, 3) := by decide +kernel
theorem dX6_hasCoat_16 : decode cX6_hasCoat 16 = .ok (.iconst 0, 1) := by decide +kernel
theorem dX6_hasCoat_17 : decode cX6_hasCoat 17 = .ok (.ireturn, 1) := by decide +kernel
theorem dX6_hasLight_0 : decode cX6_hasLight 0 = .ok (.iload_n 1, 1) := by decide +kernel
theorem dX6_hasLight_1 : decode cX6_hasLight 1 = .ok (.ifCond .lt 15, 3) := by decide +kernel
theorem dX6_hasLight_4 : decode cX6_hasLight 4 = .ok (.iload_n 1, 1) := by decide +kernel
theorem dX6_hasLight_5 : decode cX6_hasLight 5 = .ok (.aload_n 0, 1) := by decide +kernel
theorem dX6_hasLight_6 : decode cX6_hasLight 6 = .ok (.getfield 57, 3) := by decide +kernel
theorem dX6_hasLight_9 : decode cX6_hasLight 9 = .ok (.if_icmp .ge 7, 3) := by decide +kernel
theorem dX6_hasLight_12 : decode cX6_hasLight 12 = .ok (.iconst 1, 1) := by decide +kernel
theorem dX6_hasLight_13 : decode cX6_hasLight 13 = .ok (.goto 4, 3) := by decide +kernel
theorem dX6_hasLight_16 : decode cX6_hasLight 16 = .ok (.iconst 0, 1) := by decide +kernel
theorem dX6_hasLight_17 : decode cX6_hasLight 17 = .ok (.ireturn, 1) := by decide +kernel
set_option maxRecDepth 20000 in
theorem ggX6_age_X0_age : GoodIn wsX6_age wsX0_age := goodIn_r _ [8, 9, 10, 11, 12, 24, 25, 26, 27, 28] (by decide +kernel) (by decide +kernel)
set_option maxRecDepth 20000 in
theorem gX6_age_X0_age : GoodIn wsX6_age (wsV RX6 67 RX0 yX0_age wsX0_age) := goodIn_app (goodIn_of _ (by decide +kernel)) ggX6_age_X0_age
theorem dX6_age_0 : decode cX6_age 0 = .ok (.aload_n 0, 1) := by decide +kernel
theorem dX6_age_1 : decode cX6_age 1 = .ok (.dup, 1) := by decide +kernel
theorem dX6_age_2 : decode cX6_age 2 = .ok (.getfield 48, 3) := by decide +kernel
theorem dX6_age_5 : decode cX6_age 5 = .ok (.iload_n 1, 1) := by decide +kernel
theorem dX6_age_6 : decode cX6_age 6 = .ok (.iadd, 1) := by decide +kernel
theorem dX6_age_7 : decode cX6_age 7 = .ok (.putfield 48, 3) := by decide +kernel
theorem dX6_age_10 : decode cX6_age 10 = .ok (.iconst 0, 1) := by decide +kernel
theorem dX6_age_11 : decode cX6_age 11 = .ok (.istore_n 2, 1) := by decide +kernel
theorem dX6_age_12 : decode cX6_age 12 = .ok (.iload_n 2, 1) := by decide +kernel
theorem dX6_age_13 : decode cX6_age 13 = .ok (.aload_n 0, 1) := by decide +kernel
theorem dX6_age_14 : decode cX6_age 14 = .ok (.getfield 41, 3) := by decide +kernel
theorem dX6_age_17 : decode cX6_age 17 = .ok (.if_icmp .ge 19, 3) := by decide +kernel
theorem dX6_age_20 : decode cX6_age 20 = .ok (.aload_n 0, 1) := by decide +kernel
theorem dX6_age_21 : decode cX6_age 21 = .ok (.getfield 11, 3) := by decide +kernel
theorem dX6_age_24 : decode cX6_age 24 = .ok (.iload_n 2, 1) := by decide +kernel
theorem dX6_age_25 : decode cX6_age 25 = .ok (.aaload, 1) := by decide +kernel
theorem dX6_age_26 : decode cX6_age 26 = .ok (.iload_n 1, 1) := by decide +kernel
theorem dX6_age_27 : decode cX6_age 27 = .ok (.invokevirtual 67, 3) := by decide +kernel
theorem dX6_age_30 : decode cX6_age 30 = .ok (.iinc 2 1, 3) := by decide +kernel
theorem dX6_age_33 : decode cX6_age 33 = .ok (.goto (-21), 3) := by decide +kernel
theorem dX6_age_36 : decode cX6_age 36 = .ok (.return_, 1) := by decide +kernel
theorem dX6_addCoat_0 : decode cX6_addCoat 0 = .ok (.aload_n 0, 1) := by decide +kernel
theorem dX6_addCoat_1 : decode cX6_addCoat 1 = .ok (.getfield 19, 3) := by decide +kernel
theorem dX6_addCoat_4 : decode cX6_addCoat 4 = .ok (.aload_n 0, 1) := by decide +kernel
theorem dX6_addCoat_5 : decode cX6_addCoat 5 = .ok (.getfield 60, 3) := by decide +kernel
theorem dX6_addCoat_8 : decode cX6_addCoat 8 = .ok (.aaload, 1) := by decide +kernel
theorem dX6_addCoat_9 : decode cX6_addCoat 9 = .ok (.astore 5, 2) := by decide +kernel
theorem dX6_addCoat_11 : decode cX6_addCoat 11 = .ok (.aload 5, 2) := by decide +kernel
theorem dX6_addCoat_13 : decode cX6_addCoat 13 = .ok (.iload_n 1, 1) := by decide +kernel
theorem dX6_addCoat_14 : decode cX6_addCoat 14 = .ok (.putfield 70, 3) := by decide +kernel
theorem dX6_addCoat_17 : decode cX6_addCoat 17 = .ok (.aload 5, 2) := by decide +kernel
theorem dX6_addCoat_19 : decode cX6_addCoat 19 = .ok (.getfield 73, 3) := by decide +kernel
theorem dX6_addCoat_22 : decode cX6_addCoat 22 = .ok (.iconst 0, 1) := by decide +kernel
theorem dX6_addCoat_23 : decode cX6_addCoat 23 = .ok (.iload_n 2, 1) := by decide +kernel
theorem dX6_addCoat_24 : decode cX6_addCoat 24 = .ok (.iastore, 1) := by decide +kernel
theorem dX6_addCoat_25 : decode cX6_addCoat 25 = .ok (.aload 5, 2) := by decide +kernel
theorem dX6_addCoat_27 : decode cX6_addCoat 27 = .ok (.getfield 73, 3) := by decide +kernel
theorem dX6_addCoat_30 : decode cX6_addCoat 30 = .ok (.iconst 1, 1) := by decide +kernel
theorem dX6_addCoat_31 : decode cX6_addCoat 31 = .ok (.iload_n 3, 1) := by decide +kernel
theorem dX6_addCoat_32 : decode cX6_addCoat 32 = .ok (.iastore, 1) := by decide +kernel
theorem dX6_addCoat_33 : decode cX6_addCoat 33 = .ok (.aload 5, 2) := by decide +kernel
theorem dX6_addCoat_35 : decode cX6_addCoat 35 = .ok (.getfield 73, 3) := by decide +kernel
theorem dX6_addCoat_38 : decode cX6_addCoat 38 = .ok (.iconst 2, 1) := by decide +kernel
theorem dX6_addCoat_39 : decode cX6_addCoat 39 = .ok (.iload 4, 2) := by decide +kernel
theorem dX6_addCoat_41 : decode cX6_addCoat 41 = .ok (.iastore, 1) := by decide +kernel
theorem dX6_addCoat_42 : decode cX6_addCoat 42 = .ok (.aload_n 0, 1) := by decide +kernel
theorem dX6_addCoat_43 : decode cX6_addCoat 43 = .ok (.dup, 1) := by decide +kernel
theorem dX6_addCoat_44 : decode cX6_addCoat 44 = .ok (.getfield 60, 3) := by decide +kernel
theorem dX6_addCoat_47 : decode cX6_addCoat 47 = .ok (.iconst 1, 1) := by decide +kernel
theorem dX6_addCoat_48 : decode cX6_addCoat 48 = .ok (.iadd, 1) := by decide +kernel
theorem dX6_addCoat_49 : decode cX6_addCoat 49 = .ok (.putfield 60, 3) := by decide +kernel
theorem dX6_addCoat_52 : decode cX6_addCoat 52 = .ok (.aload_n 0, 1) := by decide +kernel
theorem dX6_addCoat_53 : decode cX6_addCoat 53 = .ok (.getfield 60, 3) := by decide +kernel
theorem dX6_addCoat_56 : decode cX6_addCoat 56 = .ok (.iconst 1, 1) := by decide +kernel
theorem dX6_addCoat_57 : decode cX6_addCoat 57 = .ok (.isub, 1) := by decide +kernel
theorem dX6_addCoat_58 : decode cX6_addCoat 58 = .ok (.ireturn, 1) := by decide +kernel
theorem dX6_addLight_0 : decode cX6_addLight 0 = .ok (.aload_n 0, 1) := by decide +kernel
theorem dX6_addLight_1 : decode cX6_addLight 1 = .ok (.getfield 57, 3) := by decide +kernel
theorem dX6_addLight_4 : decode cX6_addLight 4 = .ok (.iconst 3, 1) := by decide +kernel
theorem dX6_addLight_5 : decode cX6_addLight 5 = .ok (.imul, 1) := by decide +kernel
theorem dX6_addLight_6 : decode cX6_addLight 6 = .ok (.istore 4, 2) := by decide +kernel
theorem dX6_addLight_8 : decode cX6_addLight 8 = .ok (.aload_n 0, 1) := by decide +kernel
theorem dX6_addLight_9 : decode cX6_addLight 9 = .ok (.getfield 23, 3) := by decide +kernel
theorem dX6_addLight_12 : decode cX6_addLight 12 = .ok (.iload 4, 2) := by decide +kernel
theorem dX6_addLight_14 : decode cX6_addLight 14 = .ok (.iload_n 1, 1) := by decide +kernel
theorem dX6_addLight_15 : decode cX6_addLight 15 = .ok (.iastore, 1) := by decide +kernel
theorem dX6_addLight_16 : decode cX6_addLight 16 = .ok (.aload_n 0, 1) := by decide +kernel
theorem dX6_addLight_17 : decode cX6_addLight 17 = .ok (.getfield 23, 3) := by decide +kernel
theorem dX6_addLight_20 : decode cX6_addLight 20 = .ok (.iload 4, 2) := by decide +kernel
theorem dX6_addLight_22 : decode cX6_addLight 22 = .ok (.iconst 1, 1) := by decide +kernel
theorem dX6_addLight_23 : decode cX6_addLight 23 = .ok (.iadd, 1) := by decide +kernel
theorem dX6_addLight_24 : decode cX6_addLight 24 = .ok (.iload_n 2, 1) := by decide +kernel
theorem dX6_addLight_25 : decode cX6_addLight 25 = .ok (.iastore, 1) := by decide +kernel
theorem dX6_addLight_26 : decode cX6_addLight 26 = .ok (.aload_n 0, 1) := by decide +kernel
theorem dX6_addLight_27 : decode cX6_addLight 27 = .ok (.getfield 23, 3) := by decide +kernel
theorem dX6_addLight_30 : decode cX6_addLight 30 = .ok (.iload 4, 2) := by decide +kernel
theorem dX6_addLight_32 : decode cX6_addLight 32 = .ok (.iconst 2, 1) := by decide +kernel
theorem dX6_addLight_33 : decode cX6_addLight 33 = .ok (.iadd, 1) := by decide +kernel
theorem dX6_addLight_34 : decode cX6_addLight 34 = .ok (.iload_n 3, 1) := by decide +kernel
theorem dX6_addLight_35 : decode cX6_addLight 35 = .ok (.iastore, 1) := by decide +kernel
theorem dX6_addLight_36 : decode cX6_addLight 36 = .ok (.aload_n 0, 1) := by decide +kernel
theorem dX6_addLight_37 : decode cX6_addLight 37 = .ok (.dup, 1) := by decide +kernel
theorem dX6_addLight_38 : decode cX6_addLight 38 = .ok (.getfield 57, 3) := by decide +kernel
theorem dX6_addLight_41 : decode cX6_addLight 41 = .ok (.iconst 1, 1) := by decide +kernel
theorem dX6_addLight_42 : decode cX6_addLight 42 = .ok (.iadd, 1) := by decide +kernel
theorem dX6_addLight_43 : decode cX6_addLight 43 = .ok (.putfield 57, 3) := by decide +kernel
theorem dX6_addLight_46 : decode cX6_addLight 46 = .ok (.aload_n 0, 1) := by decide +kernel
theorem dX6_addLight_47 : decode cX6_addLight 47 = .ok (.getfield 57, 3) := by decide +kernel
theorem dX6_addLight_50 : decode cX6_addLight 50 = .ok (.iconst 1, 1) := by decide +kernel
theorem dX6_addLight_51 : decode cX6_addLight 51 = .ok (.isub, 1) := by decide +kernel
theorem dX6_addLight_52 : decode cX6_addLight 52 = .ok (.ireturn, 1) := by decide +kernel
set_option maxRecDepth 20000 in
theorem ggX6_lookOfCoat_X1_comesBack : GoodIn wsX6_lookOfCoat wsX1_comesBack := goodIn_r _ [7, 8, 9, 10, 11, 12, 13, 14, 15, 16, 6, 17, 29, 30] (by decide +kernel) (by decide +kernel)
set_option maxRecDepth 20000 in
theorem gX6_lookOfCoat_X1_comesBack : GoodIn wsX6_lookOfCoat (wsV RX6 76 RX1 yX1_comesBack wsX1_comesBack) := goodIn_app (goodIn_of _ (by decide +kernel)) ggX6_lookOfCoat_X1_comesBack
theorem dX6_lookOfCoat_0 : decode cX6_lookOfCoat 0 = .ok (.iconst 0, 1) := by decide +kernel
theorem dX6_lookOfCoat_1 : decode cX6_lookOfCoat 1 = .ok (.istore 6, 2) := by decide +kernel
theorem dX6_lookOfCoat_3 : decode cX6_lookOfCoat 3 = .ok (.iconst 0, 1) := by decide +kernel
theorem dX6_lookOfCoat_4 : decode cX6_lookOfCoat 4 = .ok (.istore 7, 2) := by decide +kernel
theorem dX6_lookOfCoat_6 : decode cX6_lookOfCoat 6 = .ok (.iload 7, 2) := by decide +kernel
theorem dX6_lookOfCoat_8 : decode cX6_lookOfCoat 8 = .ok (.iconst 3, 1) := by decide +kernel
theorem dX6_lookOfCoat_9 : decode cX6_lookOfCoat 9 = .ok (.if_icmp .ge 41, 3) := by decide +kernel
theorem dX6_lookOfCoat_12 : decode cX6_lookOfCoat 12 = .ok (.iload 6, 2) := by decide +kernel
theorem dX6_lookOfCoat_14 : decode cX6_lookOfCoat 14 = .ok (.aload_n 1, 1) := by decide +kernel
theorem dX6_lookOfCoat_15 : decode cX6_lookOfCoat 15 = .ok (.iload 7, 2) := by decide +kernel
theorem dX6_lookOfCoat_17 : decode cX6_lookOfCoat 17 = .ok (.iload_n 2, 1) := by decide +kernel
theorem dX6_lookOfCoat_18 : decode cX6_lookOfCoat 18 = .ok (.iload_n 3, 1) := by decide +kernel
theorem dX6_lookOfCoat_19 : decode cX6_lookOfCoat 19 = .ok (.aload_n 0, 1) := by decide +kernel
theorem dX6_lookOfCoat_20 : decode cX6_lookOfCoat 20 = .ok (.getfield 51, 3) := by decide +kernel
theorem dX6_lookOfCoat_23 : decode cX6_lookOfCoat 23 = .ok (.iload 5, 2) := by decide +kernel
theorem dX6_lookOfCoat_25 : decode cX6_lookOfCoat 25 = .ok (.invokevirtual 76, 3) := by decide +kernel
theorem dX6_lookOfCoat_28 : decode cX6_lookOfCoat 28 = .ok (.aload_n 0, 1) := by decide +kernel
theorem dX6_lookOfCoat_29 : decode cX6_lookOfCoat 29 = .ok (.getfield 23, 3) := by decide +kernel
theorem dX6_lookOfCoat_32 : decode cX6_lookOfCoat 32 = .ok (.iload 4, 2) := by decide +kernel
theorem dX6_lookOfCoat_34 : decode cX6_lookOfCoat 34 = .ok (.iconst 3, 1) := by decide +kernel
theorem dX6_lookOfCoat_35 : decode cX6_lookOfCoat 35 = .ok (.imul, 1) := by decide +kernel
theorem dX6_lookOfCoat_36 : decode cX6_lookOfCoat 36 = .ok (.iload 7, 2) := by decide +kernel
theorem dX6_lookOfCoat_38 : decode cX6_lookOfCoat 38 = .ok (.iadd, 1) := by decide +kernel
theorem dX6_lookOfCoat_39 : decode cX6_lookOfCoat 39 = .ok (.iaload, 1) := by decide +kernel
theorem dX6_lookOfCoat_40 : decode cX6_lookOfCoat 40 = .ok (.imul, 1) := by decide +kernel
theorem dX6_lookOfCoat_41 : decode cX6_lookOfCoat 41 = .ok (.iadd, 1) := by decide +kernel
theorem dX6_lookOfCoat_42 : decode cX6_lookOfCoat 42 = .ok (.istore 6, 2) := by decide +kernel
theorem dX6_lookOfCoat_44 : decode cX6_lookOfCoat 44 = .ok (.iinc 7 1, 3) := by decide +kernel
theorem dX6_lookOfCoat_47 : decode cX6_lookOfCoat 47 = .ok (.goto (-41), 3) := by decide +kernel
theorem dX6_lookOfCoat_50 : decode cX6_lookOfCoat 50 = .ok (.iload 6, 2) := by decide +kernel
theorem dX6_lookOfCoat_52 : decode cX6_lookOfCoat 52 = .ok (.ireturn, 1) := by decide +kernel
set_option maxRecDepth 20000 in
theorem ggX6_lookOfCell_X6_lookOfCoat : GoodIn wsX6_lookOfCell wsX6_lookOfCoat := goodIn_r _ [10, 11, 12, 13, 14, 15, 16, 17, 18, 19, 20, 21, 22, 23, 24, 25, 26, 27, 28, 29, 30, 31, 32, 33, 34, 35, 36, 37, 38, 44, 45] (by decide +kernel) (by decide +kernel)
set_option maxRecDepth 20000 in
theorem gX6_lookOfCell_X6_lookOfCoat : GoodIn wsX6_lookOfCell (wsV RX6 89 RX6 yX6_lookOfCoat wsX6_lookOfCoat) := goodIn_app (goodIn_of _ (by decide +kernel)) ggX6_lookOfCell_X6_lookOfCoat
theorem dX6_lookOfCell_0 : decode cX6_lookOfCell 0 = .ok (.aload_n 0, 1) := by decide +kernel
theorem dX6_lookOfCell_1 : decode cX6_lookOfCell 1 = .ok (.getfield 11, 3) := by decide +kernel
theorem dX6_lookOfCell_4 : decode cX6_lookOfCell 4 = .ok (.iload_n 1, 1) := by decide +kernel
theorem dX6_lookOfCell_5 : decode cX6_lookOfCell 5 = .ok (.aaload, 1) := by decide +kernel
theorem dX6_lookOfCell_6 : decode cX6_lookOfCell 6 = .ok (.astore 4, 2) := by decide +kernel
theorem dX6_lookOfCell_8 : decode cX6_lookOfCell 8 = .ok (.aload_n 0, 1) := by decide +kernel
theorem dX6_lookOfCell_9 : decode cX6_lookOfCell 9 = .ok (.aload_n 0, 1) := by decide +kernel
theorem dX6_lookOfCell_10 : decode cX6_lookOfCell 10 = .ok (.getfield 19, 3) := by decide +kernel
theorem dX6_lookOfCell_13 : decode cX6_lookOfCell 13 = .ok (.aload 4, 2) := by decide +kernel
theorem dX6_lookOfCell_15 : decode cX6_lookOfCell 15 = .ok (.getfield 80, 3) := by decide +kernel
theorem dX6_lookOfCell_18 : decode cX6_lookOfCell 18 = .ok (.aaload, 1) := by decide +kernel
theorem dX6_lookOfCell_19 : decode cX6_lookOfCell 19 = .ok (.aload 4, 2) := by decide +kernel
theorem dX6_lookOfCell_21 : decode cX6_lookOfCell 21 = .ok (.getfield 83, 3) := by decide +kernel
theorem dX6_lookOfCell_24 : decode cX6_lookOfCell 24 = .ok (.aload 4, 2) := by decide +kernel
theorem dX6_lookOfCell_26 : decode cX6_lookOfCell 26 = .ok (.getfield 86, 3) := by decide +kernel
theorem dX6_lookOfCell_29 : decode cX6_lookOfCell 29 = .ok (.iload_n 2, 1) := by decide +kernel
theorem dX6_lookOfCell_30 : decode cX6_lookOfCell 30 = .ok (.iload_n 3, 1) := by decide +kernel
theorem dX6_lookOfCell_31 : decode cX6_lookOfCell 31 = .ok (.invokevirtual 89, 3) := by decide +kernel
theorem dX6_lookOfCell_34 : decode cX6_lookOfCell 34 = .ok (.ireturn, 1) := by decide +kernel
theorem dX6_views_0 : decode cX6_views 0 = .ok (.iconst 2, 1) := by decide +kernel
theorem dX6_views_1 : decode cX6_views 1 = .ok (.aload_n 0, 1) := by decide +kernel
theorem dX6_views_2 : decode cX6_views 2 = .ok (.getfield 57, 3) := by decide +kernel
theorem dX6_views_5 : decode cX6_views 5 = .ok (.imul, 1) := by decide +kernel
theorem dX6_views_6 : decode cX6_views 6 = .ok (.ireturn, 1) := by decide +kernel
set_option maxRecDepth 20000 in
theorem ggX6_areTraitors_X6_apartFresh : GoodIn wsX6_areTraitors wsX6_apartFresh := goodIn_r _ [6, 7, 8, 9, 10, 11, 12, 13, 14, 5, 15, 16, 17, 18, 19, 20, 21, 22, 23, 24, 25, 26, 27, 28, 29, 30, 31, 32, 33, 34, 35, 36, 37, 38, 39, 40, 41, 42, 43, 44] (by decide +kernel) (by decide +kernel)
set_option maxRecDepth 20000 in
theorem gX6_areTraitors_X6_apartFresh : GoodIn wsX6_areTraitors (wsV RX6 93 RX6 yX6_apartFresh wsX6_apartFresh) := goodIn_app (goodIn_of _ (by decide +kernel)) ggX6_areTraitors_X6_apartFresh
theorem dX6_areTraitors_0 : decode cX6_areTraitors 0 = .ok (.aload_n 0, 1) := by decide +kernel
theorem dX6_areTraitors_1 : decode cX6_areTraitors 1 = .ok (.iload_n 1, 1) := by decide +kernel
theorem dX6_areTraitors_2 : decode cX6_areTraitors 2 = .ok (.iload_n 2, 1) := by decide +kernel
theorem dX6_areTraitors_3 : decode cX6_areTraitors 3 = .ok (.iload_n 3, 1) := by decide +kernel
theorem dX6_areTraitors_4 : decode cX6_areTraitors 4 = .ok (.invokevirtual 93, 3) := by decide +kernel
theorem dX6_areTraitors_7 : decode cX6_areTraitors 7 = .ok (.aload_n 0, 1) := by decide +kernel
theorem dX6_areTraitors_8 : decode cX6_areTraitors 8 = .ok (.getfield 54, 3) := by decide +kernel
theorem dX6_areTraitors_11 : decode cX6_areTraitors 11 = .ok (.if_icmp .ge 22, 3) := by decide +kernel
theorem dX6_areTraitors_14 : decode cX6_areTraitors 14 = .ok (.aload_n 0, 1) := by decide +kernel
theorem dX6_areTraitors_15 : decode cX6_areTraitors 15 = .ok (.iload_n 1, 1) := by decide +kernel
theorem dX6_areTraitors_16 : decode cX6_areTraitors 16 = .ok (.iload_n 2, 1) := by decide +kernel
theorem dX6_areTraitors_17 : decode cX6_areTraitors 17 = .ok (.iload 4, 2) := by decide +kernel
theorem dX6_areTraitors_19 : decode cX6_areTraitors 19 = .ok (.invokevirtual 93, 3) := by decide +kernel
theorem dX6_areTraitors_22 : decode cX6_areTraitors 22 = .ok (.aload_n 0, 1) := by decide +kernel
theorem dX6_areTraitors_23 : decode cX6_areTraitors 23 = .ok (.getfield 54, 3) := by decide +kernel
theorem dX6_areTraitors_26 : decode cX6_areTraitors 26 = .ok (.if_icmp .lt 7, 3) := by decide +kernel
theorem dX6_areTraitors_29 : decode cX6_areTraitors 29 = .ok (.iconst 1, 1) := by decide +kernel
theorem dX6_areTraitors_30 : decode cX6_areTraitors 30 = .ok (.goto 4, 3) := by decide +kernel
theorem dX6_areTraitors_33 : decode cX6_areTraitors 33 = .ok (.iconst 0, 1) := by decide +kernel
theorem dX6_areTraitors_34 : decode cX6_areTraitors 34 = .ok (.ireturn, 1) := by decide +kernel
set_option maxRecDepth 20000 in
theorem ggX6_apartFresh_X6_lookOfCoat : GoodIn wsX6_apartFresh wsX6_lookOfCoat := goodIn_r _ [10, 11, 12, 13, 14, 15, 16, 17, 18, 19, 20, 4, 21, 22, 23, 24, 25, 26, 27, 28, 29, 30, 31, 32, 33, 34, 35, 36, 37, 38, 39] (by decide +kernel) (by decide +kernel)
set_option maxRecDepth 20000 in
theorem gX6_apartFresh_X6_lookOfCoat : GoodIn wsX6_apartFresh (wsV RX6 89 RX6 yX6_lookOfCoat wsX6_lookOfCoat) := goodIn_app (goodIn_of _ (by decide +kernel)) ggX6_apartFresh_X6_lookOfCoat
theorem dX6_apartFresh_0 : decode cX6_apartFresh 0 = .ok (.aload_n 0, 1) := by decide +kernel
theorem dX6_apartFresh_1 : decode cX6_apartFresh 1 = .ok (.aload_n 0, 1) := by decide +kernel
theorem dX6_apartFresh_2 : decode cX6_apartFresh 2 = .ok (.getfield 19, 3) := by decide +kernel
theorem dX6_apartFresh_5 : decode cX6_apartFresh 5 = .ok (.iload_n 1, 1) := by decide +kernel
theorem dX6_apartFresh_6 : decode cX6_apartFresh 6 = .ok (.aaload, 1) := by decide +kernel
theorem dX6_apartFresh_7 : decode cX6_apartFresh 7 = .ok (.iconst 0, 1) := by decide +kernel
theorem dX6_apartFresh_8 : decode cX6_apartFresh 8 = .ok (.iconst 0, 1) := by decide +kernel
theorem dX6_apartFresh_9 : decode cX6_apartFresh 9 = .ok (.iload_n 3, 1) := by decide +kernel
theorem dX6_apartFresh_10 : decode cX6_apartFresh 10 = .ok (.iconst 0, 1) := by decide +kernel
theorem dX6_apartFresh_11 : decode cX6_apartFresh 11 = .ok (.invokevirtual 89, 3) := by decide +kernel
theorem dX6_apartFresh_14 : decode cX6_apartFresh 14 = .ok (.aload_n 0, 1) := by decide +kernel
theorem dX6_apartFresh_15 : decode cX6_apartFresh 15 = .ok (.aload_n 0, 1) := by decide +kernel
theorem dX6_apartFresh_16 : decode cX6_apartFresh 16 = .ok (.getfield 19, 3) := by decide +kernel
theorem dX6_apartFresh_19 : decode cX6_apartFresh 19 = .ok (.iload_n 2, 1) := by decide +kernel
theorem dX6_apartFresh_20 : decode cX6_apartFresh 20 = .ok (.aaload, 1) := by decide +kernel
theorem dX6_apartFresh_21 : decode cX6_apartFresh 21 = .ok (.iconst 0, 1) := by decide +kernel
theorem dX6_apartFresh_22 : decode cX6_apartFresh 22 = .ok (.iconst 0, 1) := by decide +kernel
theorem dX6_apartFresh_23 : decode cX6_apartFresh 23 = .ok (.iload_n 3, 1) := by decide +kernel
theorem dX6_apartFresh_24 : decode cX6_apartFresh 24 = .ok (.iconst 0, 1) := by decide +kernel
theorem dX6_apartFresh_25 : decode cX6_apartFresh 25 = .ok (.invokevirtual 89, 3) := by decide +kernel
theorem dX6_apartFresh_28 : decode cX6_apartFresh 28 = .ok (.isub, 1) := by decide +kernel
theorem dX6_apartFresh_29 : decode cX6_apartFresh 29 = .ok (.invokestatic 97, 3) := by decide +kernel
theorem dX6_apartFresh_32 : decode cX6_apartFresh 32 = .ok (.ireturn, 1) := by decide +kernel
end
section
set_option maxRecDepth 20000 in
theorem ggX7_init_X6_init : GoodIn wsX7_init wsX6_init := goodIn_r _ [26, 27, 2, 3, 28, 29, 30, 31, 32, 33, 34, 35, 36, 37, 38, 39, 40, 41, 42, 43, 44, 79, 80, 81, 82, 83, 84, 85, 86, 87, 88, 89, 109, 110, 111, 112, 113, 114, 115] (by decide +kernel) (by decide +kernel)
set_option maxRecDepth 20000 in
theorem gX7_init_X6_init : GoodIn wsX7_init (wsX6_init) := ggX7_init_X6_init
set_option maxRecDepth 20000 in
theorem ggX7_init_X2_init : GoodIn wsX7_init wsX2_init := goodIn_r _ [47, 48, 2, 3, 32, 49, 50, 51, 90, 91, 92] (by decide +kernel) (by decide +kernel)
set_option maxRecDepth 20000 in
theorem gX7_init_X2_init : GoodIn wsX7_init (wsX2_init) := ggX7_init_X2_init
set_option maxRecDepth 20000 in
theorem ggX7_init_X3_init : GoodIn wsX7_init wsX3_init := goodIn_r _ [54, 55, 2, 3, 32, 56, 57, 36, 37, 58, 59, 60, 61, 41, 42, 43, 44, 93, 94, 95, 96, 97, 98, 99, 114, 115] (by decide +kernel) (by decide +kernel)
set_option maxRecDepth 20000 in
theorem gX7_init_X3_init : GoodIn wsX7_init (wsX3_init) := ggX7_init_X3_init
set_option maxRecDepth 20000 in
theorem ggX7_init_X4_init : GoodIn wsX7_init wsX4_init := goodIn_r _ [64, 65, 2, 3, 66, 67, 100, 101, 102, 103, 104] (by decide +kernel) (by decide +kernel)
set_option maxRecDepth 20000 in
theorem gX7_init_X4_init : GoodIn wsX7_init (wsX4_init) := ggX7_init_X4_init
set_option maxRecDepth 20000 in
theorem ggX7_init_X5_init : GoodIn wsX7_init wsX5_init := goodIn_r _ [69, 70, 2, 3, 32, 71, 105, 106, 107, 108] (by decide +kernel) (by decide +kernel)
set_option maxRecDepth 20000 in
theorem gX7_init_X5_init_n49 : GoodIn wsX7_init (wsX5_init) := ggX7_init_X5_init
theorem dX7_init_0 : decode cX7_init 0 = .ok (.aload_n 0, 1) := by decide +kernel
theorem dX7_init_1 : decode cX7_init 1 = .ok (.invokespecial 5, 3) := by decide +kernel
theorem dX7_init_4 : decode cX7_init 4 = .ok (.aload_n 0, 1) := by decide +kernel
theorem dX7_init_5 : decode cX7_init 5 = .ok (.iconst 4, 1) := by decide +kernel
theorem dX7_init_6 : decode cX7_init 6 = .ok (.anewarray 11, 3) := by decide +kernel
theorem dX7_init_9 : decode cX7_init 9 = .ok (.putfield 13, 3) := by decide +kernel
theorem dX7_init_12 : decode cX7_init 12 = .ok (.aload_n 0, 1) := by decide +kernel
theorem dX7_init_13 : decode cX7_init 13 = .ok (.new 17, 3) := by decide +kernel
theorem dX7_init_16 : decode cX7_init 16 = .ok (.dup, 1) := by decide +kernel
theorem dX7_init_17 : decode cX7_init 17 = .ok (.invokespecial 19, 3) := by decide +kernel
theorem dX7_init_20 : decode cX7_init 20 = .ok (.putfield 20, 3) := by decide +kernel
theorem dX7_init_23 : decode cX7_init 23 = .ok (.aload_n 0, 1) := by decide +kernel
theorem dX7_init_24 : decode cX7_init 24 = .ok (.new 24, 3) := by decide +kernel
theorem dX7_init_27 : decode cX7_init 27 = .ok (.dup, 1) := by decide +kernel
theorem dX7_init_28 : decode cX7_init 28 = .ok (.aload_n 0, 1) := by decide +kernel
theorem dX7_init_29 : decode cX7_init 29 = .ok (.getfield 20, 3) := by decide +kernel
theorem dX7_init_32 : decode cX7_init 32 = .ok (.invokespecial 26, 3) := by decide +kernel
theorem dX7_init_35 : decode cX7_init 35 = .ok (.putfield 29, 3) := by decide +kernel
theorem dX7_init_38 : decode cX7_init 38 = .ok (.aload_n 0, 1) := by decide +kernel
theorem dX7_init_39 : decode cX7_init 39 = .ok (.new 33, 3) := by decide +kernel
theorem dX7_init_42 : decode cX7_init 42 = .ok (.dup, 1) := by decide +kernel
theorem dX7_init_43 : decode cX7_init 43 = .ok (.aload_n 0, 1) := by decide +kernel
theorem dX7_init_44 : decode cX7_init 44 = .ok (.getfield 20, 3) := by decide +kernel
theorem dX7_init_47 : decode cX7_init 47 = .ok (.invokespecial 35, 3) := by decide +kernel
theorem dX7_init_50 : decode cX7_init 50 = .ok (.putfield 36, 3) := by decide +kernel
theorem dX7_init_53 : decode cX7_init 53 = .ok (.aload_n 0, 1) := by decide +kernel
theorem dX7_init_54 : decode cX7_init 54 = .ok (.new 40, 3) := by decide +kernel
theorem dX7_init_57 : decode cX7_init 57 = .ok (.dup, 1) := by decide +kernel
theorem dX7_init_58 : decode cX7_init 58 = .ok (.aload_n 0, 1) := by decide +kernel
theorem dX7_init_59 : decode cX7_init 59 = .ok (.getfield 20, 3) := by decide +kernel
theorem dX7_init_62 : decode cX7_init 62 = .ok (.aload_n 0, 1) := by decide +kernel
theorem dX7_init_63 : decode cX7_init 63 = .ok (.getfield 29, 3) := by decide +kernel
theorem dX7_init_66 : decode cX7_init 66 = .ok (.invokespecial 42, 3) := by decide +kernel
theorem dX7_init_69 : decode cX7_init 69 = .ok (.putfield 45, 3) := by decide +kernel
theorem dX7_init_72 : decode cX7_init 72 = .ok (.iconst 0, 1) := by decide +kernel
theorem dX7_init_73 : decode cX7_init 73 = .ok (.istore_n 1, 1) := by decide +kernel
theorem dX7_init_74 : decode cX7_init 74 = .ok (.iload_n 1, 1) := by decide +kernel
theorem dX7_init_75 : decode cX7_init 75 = .ok (.iconst 4, 1) := by decide +kernel
theorem dX7_init_76 : decode cX7_init 76 = .ok (.if_icmp .ge 22, 3) := by decide +kernel
theorem dX7_init_79 : decode cX7_init 79 = .ok (.aload_n 0, 1) := by decide +kernel
theorem dX7_init_80 : decode cX7_init 80 = .ok (.getfield 13, 3) := by decide +kernel
theorem dX7_init_83 : decode cX7_init 83 = .ok (.iload_n 1, 1) := by decide +kernel
theorem dX7_init_84 : decode cX7_init 84 = .ok (.new 11, 3) := by decide +kernel
theorem dX7_init_87 : decode cX7_init 87 = .ok (.dup, 1) := by decide +kernel
theorem dX7_init_88 : decode cX7_init 88 = .ok (.invokespecial 49, 3) := by decide +kernel
theorem dX7_init_91 : decode cX7_init 91 = .ok (.aastore, 1) := by decide +kernel
theorem dX7_init_92 : decode cX7_init 92 = .ok (.iinc 1 1, 3) := by decide +kernel
theorem dX7_init_95 : decode cX7_init 95 = .ok (.goto (-21), 3) := by decide +kernel
theorem dX7_init_98 : decode cX7_init 98 = .ok (.return_, 1) := by decide +kernel
set_option maxRecDepth 20000 in
theorem ggX7_wall_X7_isSheet : GoodIn wsX7_wall wsX7_isSheet := goodIn_r _ [8, 9, 10, 7, 11] (by decide +kernel) (by decide +kernel)
set_option maxRecDepth 20000 in
theorem gX7_wall_X7_isSheet : GoodIn wsX7_wall (va_wsS RX7 54 yX7_isSheet wsX7_isSheet) := goodIn_app (goodIn_of _ (by decide +kernel)) ggX7_wall_X7_isSheet
set_option maxRecDepth 20000 in
theorem ggX7_wall_X7_isSort : GoodIn wsX7_wall wsX7_isSort := goodIn_r _ [14, 9, 10, 7, 11] (by decide +kernel) (by decide +kernel)
set_option maxRecDepth 20000 in
theorem gX7_wall_X7_isSort : GoodIn wsX7_wall (va_wsS RX7 58 yX7_isSort wsX7_isSort) := goodIn_app (goodIn_of _ (by decide +kernel)) ggX7_wall_X7_isSort
set_option maxRecDepth 20000 in
theorem ggX7_wall_X5_faultAs : GoodIn wsX7_wall wsX5_faultAs := goodIn_r _ [19, 20, 21, 97, 98, 99, 100] (by decide +kernel) (by decide +kernel)
set_option maxRecDepth 20000 in
theorem gX7_wall_X5_faultAs : GoodIn wsX7_wall (wsV RX7 61 RX5 yX5_faultAs wsX5_faultAs) := goodIn_app (goodIn_of _ (by decide +kernel)) ggX7_wall_X5_faultAs
set_option maxRecDepth 20000 in
theorem ggX7_wall_X5_reaches : GoodIn wsX7_wall wsX5_reaches := goodIn_r _ [25, 26, 97, 98, 99, 100] (by decide +kernel) (by decide +kernel)
set_option maxRecDepth 20000 in
theorem gX7_wall_X5_reaches : GoodIn wsX7_wall (wsV RX7 65 RX5 yX5_reaches wsX5_reaches) := goodIn_app (goodIn_of _ (by decide +kernel)) ggX7_wall_X5_reaches
set_option maxRecDepth 20000 in
theorem ggX7_wall_X7_failed : GoodIn wsX7_wall wsX7_failed := goodIn_r _ [30, 1, 79, 80, 81, 82, 83, 84, 85] (by decide +kernel) (by decide +kernel)
set_option maxRecDepth 20000 in
theorem gX7_wall_X7_failed : GoodIn wsX7_wall (wsV RX7 69 RX7 yX7_failed wsX7_failed) := goodIn_app (goodIn_of _ (by decide +kernel)) ggX7_wall_X7_failed
set_option maxRecDepth 20000 in
theorem ggX7_wall_X5_firstWrongCode : GoodIn wsX7_wall wsX5_firstWrongCode := goodIn_r _ [34, 35, 10, 7, 11, 36, 37, 38, 18, 39, 40, 41, 42, 97, 98, 99, 100] (by decide +kernel) (by decide +kernel)
set_option maxRecDepth 20000 in
theorem gX7_wall_X5_firstWrongCode : GoodIn wsX7_wall (wsV RX7 72 RX5 yX5_firstWrongCode wsX5_firstWrongCode) := goodIn_app (goodIn_of _ (by decide +kernel)) ggX7_wall_X5_firstWrongCode
set_option maxRecDepth 20000 in
theorem ggX7_wall_X6_makeAnew : GoodIn wsX7_wall wsX6_makeAnew := goodIn_r _ [47, 48, 49, 50, 51, 52, 53, 54, 55, 56, 57, 58, 59, 60, 61, 62, 63, 64, 65, 66, 67, 68, 69, 70, 71, 72, 73, 74, 46, 75, 76, 77, 78, 97, 98, 99, 100, 86, 87, 88, 89, 90, 91, 92, 93, 94, 95, 96, 101, 102, 103, 104, 105, 106, 107] (by decide +kernel) (by decide +kernel)
set_option maxRecDepth 20000 in
theorem gX7_wall_X6_makeAnew : GoodIn wsX7_wall (wsV RX7 76 RX6 yX6_makeAnew wsX6_makeAnew) := goodIn_app (goodIn_of _ (by decide +kernel)) ggX7_wall_X6_makeAnew
theorem dX7_wall_0 : decode cX7_wall 0 = .ok (.aload_n 0, 1) := by decide +kernel
theorem dX7_wall_1 : decode cX7_wall 1 = .ok (.iconst 0, 1) := by decide +kernel
theorem dX7_wall_2 : decode cX7_wall 2 = .ok (.putfield 50, 3) := by decide +kernel
theorem dX7_wall_5 : decode cX7_wall 5 = .ok (.iload_n 1, 1) := by decide +kernel
theorem dX7_wall_6 : decode cX7_wall 6 = .ok (.invokestatic 54, 3) := by decide +kernel
theorem dX7_wall_9 : decode cX7_wall 9 = .ok (.ifCond .ne 5, 3) := by decide +kernel
theorem dX7_wall_12 : decode cX7_wall 12 = .ok (.iconst (-1), 1) := by decide +kernel
theorem dX7_wall_13 : decode cX7_wall 13 = .ok (.ireturn, 1) := by decide +kernel
theorem dX7_wall_14 : decode cX7_wall 14 = .ok (.iload_n 2, 1) := by decide +kernel
theorem dX7_wall_15 : decode cX7_wall 15 = .ok (.invokestatic 58, 3) := by decide +kernel
theorem dX7_wall_18 : decode cX7_wall 18 = .ok (.ifCond .ne 6, 3) := by decide +kernel
theorem dX7_wall_21 : decode cX7_wall 21 = .ok (.bipush (-2), 2) := by decide +kernel
theorem dX7_wall_23 : decode cX7_wall 23 = .ok (.ireturn, 1) := by decide +kernel
theorem dX7_wall_24 : decode cX7_wall 24 = .ok (.aload_n 0, 1) := by decide +kernel
theorem dX7_wall_25 : decode cX7_wall 25 = .ok (.getfield 13, 3) := by decide +kernel
theorem dX7_wall_28 : decode cX7_wall 28 = .ok (.iload_n 1, 1) := by decide +kernel
theorem dX7_wall_29 : decode cX7_wall 29 = .ok (.aaload, 1) := by decide +kernel
theorem dX7_wall_30 : decode cX7_wall 30 = .ok (.astore 5, 2) := by decide +kernel
theorem dX7_wall_32 : decode cX7_wall 32 = .ok (.aload 5, 2) := by decide +kernel
theorem dX7_wall_34 : decode cX7_wall 34 = .ok (.iload_n 2, 1) := by decide +kernel
theorem dX7_wall_35 : decode cX7_wall 35 = .ok (.invokevirtual 61, 3) := by decide +kernel
theorem dX7_wall_38 : decode cX7_wall 38 = .ok (.istore 6, 2) := by decide +kernel
theorem dX7_wall_40 : decode cX7_wall 40 = .ok (.iload 6, 2) := by decide +kernel
theorem dX7_wall_42 : decode cX7_wall 42 = .ok (.ifCond .ne 11, 3) := by decide +kernel
theorem dX7_wall_45 : decode cX7_wall 45 = .ok (.iload 4, 2) := by decide +kernel
theorem dX7_wall_47 : decode cX7_wall 47 = .ok (.ifCond .ge 6, 3) := by decide +kernel
theorem dX7_wall_50 : decode cX7_wall 50 = .ok (.iconst 4, 1) := by decide +kernel
theorem dX7_wall_51 : decode cX7_wall 51 = .ok (.istore 6, 2) := by decide +kernel
theorem dX7_wall_53 : decode cX7_wall 53 = .ok (.iload 6, 2) := by decide +kernel
theorem dX7_wall_55 : decode cX7_wall 55 = .ok (.ifCond .ne 17, 3) := by decide +kernel
theorem dX7_wall_58 : decode cX7_wall 58 = .ok (.aload 5, 2) := by decide +kernel
theorem dX7_wall_60 : decode cX7_wall 60 = .ok (.iload_n 3, 1) := by decide +kernel
theorem dX7_wall_61 : decode cX7_wall 61 = .ok (.iload 4, 2) := by decide +kernel
theorem dX7_wall_63 : decode cX7_wall 63 = .ok (.invokevirtual 65, 3) := by decide +kernel
theorem dX7_wall_66 : decode cX7_wall 66 = .ok (.ifCond .ne 6, 3) := by decide +kernel
theorem dX7_wall_69 : decode cX7_wall 69 = .ok (.iconst 3, 1) := by decide +kernel
theorem dX7_wall_70 : decode cX7_wall 70 = .ok (.istore 6, 2) := by decide +kernel
theorem dX7_wall_72 : decode cX7_wall 72 = .ok (.iload 6, 2) := by decide +kernel
theorem dX7_wall_74 : decode cX7_wall 74 = .ok (.ifCond .eq 10, 3) := by decide +kernel
theorem dX7_wall_77 : decode cX7_wall 77 = .ok (.aload_n 0, 1) := by decide +kernel
theorem dX7_wall_78 : decode cX7_wall 78 = .ok (.iload 6, 2) := by decide +kernel
theorem dX7_wall_80 : decode cX7_wall 80 = .ok (.invokevirtual 69, 3) := by decide +kernel
theorem dX7_wall_83 : decode cX7_wall 83 = .ok (.ireturn, 1) := by decide +kernel
theorem dX7_wall_84 : decode cX7_wall 84 = .ok (.aload 5, 2) := by decide +kernel
theorem dX7_wall_86 : decode cX7_wall 86 = .ok (.iload_n 3, 1) := by decide +kernel
theorem dX7_wall_87 : decode cX7_wall 87 = .ok (.iload 4, 2) := by decide +kernel
theorem dX7_wall_89 : decode cX7_wall 89 = .ok (.invokevirtual 72, 3) := by decide +kernel
theorem dX7_wall_92 : decode cX7_wall 92 = .ok (.istore 7, 2) := by decide +kernel
theorem dX7_wall_94 : decode cX7_wall 94 = .ok (.iload 7, 2) := by decide +kernel
theorem dX7_wall_96 : decode cX7_wall 96 = .ok (.ifCond .lt 9, 3) := by decide +kernel
theorem dX7_wall_99 : decode cX7_wall 99 = .ok (.bipush (-100), 2) := by decide +kernel
theorem dX7_wall_101 : decode cX7_wall 101 = .ok (.iload 7, 2) := by decide +kernel
theorem dX7_wall_103 : decode cX7_wall 103 = .ok (.isub, 1) := by decide +kernel
theorem dX7_wall_104 : decode cX7_wall 104 = .ok (.ireturn, 1) := by decide +kernel
theorem dX7_wall_105 : decode cX7_wall 105 = .ok (.aload_n 0, 1) := by decide +kernel
theorem dX7_wall_106 : decode cX7_wall 106 = .ok (.getfield 20, 3) := by decide +kernel
theorem dX7_wall_109 : decode cX7_wall 109 = .ok (.aload 5, 2) := by decide +kernel
theorem dX7_wall_111 : decode cX7_wall 111 = .ok (.iload_n 3, 1) := by decide +kernel
theorem dX7_wall_112 : decode cX7_wall 112 = .ok (.invokevirtual 76, 3) := by decide +kernel
theorem dX7_wall_115 : decode cX7_wall 115 = .ok (.aload_n 0, 1) := by decide +kernel
theorem dX7_wall_116 : decode cX7_wall 116 = .ok (.getfield 20, 3) := by decide +kernel
theorem dX7_wall_119 : decode cX7_wall 119 = .ok (.getfield 80, 3) := by decide +kernel
theorem dX7_wall_122 : decode cX7_wall 122 = .ok (.ireturn, 1) := by decide +kernel
set_option maxRecDepth 20000 in
theorem ggX7_ofCell_X6_hasCell : GoodIn wsX7_ofCell wsX6_hasCell := goodIn_r _ [12, 13, 21, 22, 23, 24, 25, 26, 27, 28, 29, 30, 31] (by decide +kernel) (by decide +kernel)
set_option maxRecDepth 20000 in
theorem gX7_ofCell_X6_hasCell : GoodIn wsX7_ofCell (wsV RX7 83 RX6 yX6_hasCell wsX6_hasCell) := goodIn_app (goodIn_of _ (by decide +kernel)) ggX7_ofCell_X6_hasCell
theorem dX7_ofCell_0 : decode cX7_ofCell 0 = .ok (.aload_n 0, 1) := by decide +kernel
theorem dX7_ofCell_1 : decode cX7_ofCell 1 = .ok (.getfield 20, 3) := by decide +kernel
theorem dX7_ofCell_4 : decode cX7_ofCell 4 = .ok (.iload_n 1, 1) := by decide +kernel
theorem dX7_ofCell_5 : decode cX7_ofCell 5 = .ok (.invokevirtual 83, 3) := by decide +kernel
theorem dX7_ofCell_8 : decode cX7_ofCell 8 = .ok (.ifCond .ne 5, 3) := by decide +kernel
theorem dX7_ofCell_11 : decode cX7_ofCell 11 = .ok (.iconst (-1), 1) := by decide +kernel
theorem dX7_ofCell_12 : decode cX7_ofCell 12 = .ok (.ireturn, 1) := by decide +kernel
theorem dX7_ofCell_13 : decode cX7_ofCell 13 = .ok (.aload_n 0, 1) := by decide +kernel
theorem dX7_ofCell_14 : decode cX7_ofCell 14 = .ok (.getfield 20, 3) := by decide +kernel
theorem dX7_ofCell_17 : decode cX7_ofCell 17 = .ok (.getfield 86, 3) := by decide +kernel
theorem dX7_ofCell_20 : decode cX7_ofCell 20 = .ok (.iload_n 1, 1) := by decide +kernel
theorem dX7_ofCell_21 : decode cX7_ofCell 21 = .ok (.aaload, 1) := by decide +kernel
theorem dX7_ofCell_22 : decode cX7_ofCell 22 = .ok (.astore_n 3, 1) := by decide +kernel
theorem dX7_ofCell_23 : decode cX7_ofCell 23 = .ok (.iload_n 2, 1) := by decide +kernel
theorem dX7_ofCell_24 : decode cX7_ofCell 24 = .ok (.tableswitch 69 0 4 #[36, 41, 46, 51, 56], 36) := by decide +kernel
theorem dX7_ofCell_60 : decode cX7_ofCell 60 = .ok (.aload_n 3, 1) := by decide +kernel
theorem dX7_ofCell_61 : decode cX7_ofCell 61 = .ok (.getfield 90, 3) := by decide +kernel
theorem dX7_ofCell_64 : decode cX7_ofCell 64 = .ok (.ireturn, 1) := by decide +kernel
theorem dX7_ofCell_65 : decode cX7_ofCell 65 = .ok (.aload_n 3, 1) := by decide +kernel
theorem dX7_ofCell_66 : decode cX7_ofCell 66 = .ok (.getfield 95, 3) := by decide +kernel
theorem dX7_ofCell_69 : decode cX7_ofCell 69 = .ok (.ireturn, 1) := by decide +kernel
theorem dX7_ofCell_70 : decode cX7_ofCell 70 = .ok (.aload_n 3, 1) := by decide +kernel
theorem dX7_ofCell_71 : decode cX7_ofCell 71 = .ok (.getfield 98, 3) := by decide +kernel
theorem dX7_ofCell_74 : decode cX7_ofCell 74 = .ok (.ireturn, 1) := by decide +kernel
theorem dX7_ofCell_75 : decode cX7_ofCell 75 = .ok (.aload_n 3, 1) := by decide +kernel
theorem dX7_ofCell_76 : decode cX7_ofCell 76 = .ok (.getfield 101, 3) := by decide +kernel
theorem dX7_ofCell_79 : decode cX7_ofCell 79 = .ok (.ireturn, 1) := by decide +kernel
theorem dX7_ofCell_80 : decode cX7_ofCell 80 = .ok (.aload_n 3, 1) := by decide +kernel
theorem dX7_ofCell_81 : decode cX7_ofCell 81 = .ok (.getfield 104, 3) := by decide +kernel
theorem dX7_ofCell_84 : decode cX7_ofCell 84 = .ok (.ifCond .eq 7, 3) := by decide +kernel
theorem dX7_ofCell_87 : decode cX7_ofCell 87 = .ok (.iconst 1, 1) := by decide +kernel
theorem dX7_ofCell_88 : decode cX7_ofCell 88 = .ok (.goto 4, 3) := by decide +kernel
theorem dX7_ofCell_91 : decode cX7_ofCell 91 = .ok (.iconst 0, 1) := by decide +kernel
theorem dX7_ofCell_92 : decode cX7_ofCell 92 = .ok (.ireturn, 1) := by decide +kernel
theorem dX7_ofCell_93 : decode cX7_ofCell 93 = .ok (.bipush (-2), 2) := by decide +kernel
theorem dX7_ofCell_95 : decode cX7_ofCell 95 = .ok (.ireturn, 1) := by decide +kernel
set_option maxRecDepth 20000 in
theorem ggX7_set_X7_isWithin : GoodIn wsX7_set wsX7_isWithin := goodIn_r _ [7] (by decide +kernel) (by decide +kernel)
set_option maxRecDepth 20000 in
theorem gX7_set_X7_isWithin : GoodIn wsX7_set (va_wsS RX7 108 yX7_isWithin wsX7_isWithin) := goodIn_app (goodIn_of _ (by decide +kernel)) ggX7_set_X7_isWithin
set_option maxRecDepth 20000 in
theorem ggX7_set_X6_stands : GoodIn wsX7_set wsX6_stands := goodIn_r _ [12, 13, 21, 22, 23, 24, 25, 26, 27, 28, 29, 30, 31] (by decide +kernel) (by decide +kernel)
set_option maxRecDepth 20000 in
theorem gX7_set_X6_stands : GoodIn wsX7_set (wsV RX7 112 RX6 yX6_stands wsX6_stands) := goodIn_app (goodIn_of _ (by decide +kernel)) ggX7_set_X6_stands
theorem dX7_set_0 : decode cX7_set 0 = .ok (.iload_n 1, 1) := by decide +kernel
theorem dX7_set_1 : decode cX7_set 1 = .ok (.iconst 0, 1) := by decide +kernel
theorem dX7_set_2 : decode cX7_set 2 = .ok (.iconst 1, 1) := by decide +kernel
theorem dX7_set_3 : decode cX7_set 3 = .ok (.invokestatic 108, 3) := by decide +kernel
theorem dX7_set_6 : decode cX7_set 6 = .ok (.ifCond .eq 23, 3) := by decide +kernel
theorem dX7_set_9 : decode cX7_set 9 = .ok (.iload_n 2, 1) := by decide +kernel
theorem dX7_set_10 : decode cX7_set 10 = .ok (.iconst 0, 1) := by decide +kernel
theorem dX7_set_11 : decode cX7_set 11 = .ok (.iload_n 1, 1) := by decide +kernel
theorem dX7_set_12 : decode cX7_set 12 = .ok (.ifCond .ne 8, 3) := by decide +kernel
theorem dX7_set_15 : decode cX7_set 15 = .ok (.bipush 9, 2) := by decide +kernel
theorem dX7_set_17 : decode cX7_set 17 = .ok (.goto 6, 3) := by decide +kernel
theorem dX7_set_20 : decode cX7_set 20 = .ok (.sipush 999, 3) := by decide +kernel
theorem dX7_set_23 : decode cX7_set 23 = .ok (.invokestatic 108, 3) := by decide +kernel
theorem dX7_set_26 : decode cX7_set 26 = .ok (.ifCond .ne 6, 3) := by decide +kernel
theorem dX7_set_29 : decode cX7_set 29 = .ok (.bipush (-2), 2) := by decide +kernel
theorem dX7_set_31 : decode cX7_set 31 = .ok (.ireturn, 1) := by decide +kernel
theorem dX7_set_32 : decode cX7_set 32 = .ok (.aload_n 0, 1) := by decide +kernel
theorem dX7_set_33 : decode cX7_set 33 = .ok (.getfield 20, 3) := by decide +kernel
theorem dX7_set_36 : decode cX7_set 36 = .ok (.invokevirtual 112, 3) := by decide +kernel
theorem dX7_set_39 : decode cX7_set 39 = .ok (.ifCond .ne 6, 3) := by decide +kernel
theorem dX7_set_42 : decode cX7_set 42 = .ok (.bipush (-3), 2) := by decide +kernel
theorem dX7_set_44 : decode cX7_set 44 = .ok (.ireturn, 1) := by decide +kernel
theorem dX7_set_45 : decode cX7_set 45 = .ok (.iload_n 1, 1) := by decide +kernel
theorem dX7_set_46 : decode cX7_set 46 = .ok (.ifCond .ne 13, 3) := by decide +kernel
theorem dX7_set_49 : decode cX7_set 49 = .ok (.aload_n 0, 1) := by decide +kernel
theorem dX7_set_50 : decode cX7_set 50 = .ok (.getfield 20, 3) := by decide +kernel
theorem dX7_set_53 : decode cX7_set 53 = .ok (.getfield 116, 3) := by decide +kernel
theorem dX7_set_56 : decode cX7_set 56 = .ok (.goto 10, 3) := by decide +kernel
theorem dX7_set_59 : decode cX7_set 59 = .ok (.aload_n 0, 1) := by decide +kernel
theorem dX7_set_60 : decode cX7_set 60 = .ok (.getfield 20, 3) := by decide +kernel
theorem dX7_set_63 : decode cX7_set 63 = .ok (.getfield 119, 3) := by decide +kernel
theorem dX7_set_66 : decode cX7_set 66 = .ok (.istore_n 3, 1) := by decide +kernel
theorem dX7_set_67 : decode cX7_set 67 = .ok (.iload_n 1, 1) := by decide +kernel
theorem dX7_set_68 : decode cX7_set 68 = .ok (.ifCond .ne 14, 3) := by decide +kernel
theorem dX7_set_71 : decode cX7_set 71 = .ok (.aload_n 0, 1) := by decide +kernel
theorem dX7_set_72 : decode cX7_set 72 = .ok (.getfield 20, 3) := by decide +kernel
theorem dX7_set_75 : decode cX7_set 75 = .ok (.iload_n 2, 1) := by decide +kernel
theorem dX7_set_76 : decode cX7_set 76 = .ok (.putfield 116, 3) := by decide +kernel
theorem dX7_set_79 : decode cX7_set 79 = .ok (.goto 11, 3) := by decide +kernel
theorem dX7_set_82 : decode cX7_set 82 = .ok (.aload_n 0, 1) := by decide +kernel
theorem dX7_set_83 : decode cX7_set 83 = .ok (.getfield 20, 3) := by decide +kernel
theorem dX7_set_86 : decode cX7_set 86 = .ok (.iload_n 2, 1) := by decide +kernel
theorem dX7_set_87 : decode cX7_set 87 = .ok (.putfield 119, 3) := by decide +kernel
theorem dX7_set_90 : decode cX7_set 90 = .ok (.iload_n 3, 1) := by decide +kernel
theorem dX7_set_91 : decode cX7_set 91 = .ok (.ireturn, 1) := by decide +kernel
set_option maxRecDepth 20000 in
theorem ggX7_years_X7_isWithin : GoodIn wsX7_years wsX7_isWithin := goodIn_r _ [6] (by decide +kernel) (by decide +kernel)
set_option maxRecDepth 20000 in
theorem gX7_years_X7_isWithin : GoodIn wsX7_years (va_wsS RX7 108 yX7_isWithin wsX7_isWithin) := goodIn_app (goodIn_of _ (by decide +kernel)) ggX7_years_X7_isWithin
set_option maxRecDepth 20000 in
theorem ggX7_years_X6_stands : GoodIn wsX7_years wsX6_stands := goodIn_r _ [11, 12, 35, 36, 37, 38, 39, 40, 41, 42, 43, 44, 45] (by decide +kernel) (by decide +kernel)
set_option maxRecDepth 20000 in
theorem gX7_years_X6_stands : GoodIn wsX7_years (wsV RX7 112 RX6 yX6_stands wsX6_stands) := goodIn_app (goodIn_of _ (by decide +kernel)) ggX7_years_X6_stands
set_option maxRecDepth 20000 in
theorem ggX7_years_X6_age : GoodIn wsX7_years wsX6_age := goodIn_r _ [16, 17, 12, 18, 19, 20, 21, 22, 23, 24, 25, 26, 27, 35, 36, 37, 38, 39, 40, 41, 42, 43, 44, 45, 46, 47, 48, 49, 50] (by decide +kernel) (by decide +kernel)
set_option maxRecDepth 20000 in
theorem gX7_years_X6_age : GoodIn wsX7_years (wsV RX7 125 RX6 yX6_age wsX6_age) := goodIn_app (goodIn_of _ (by decide +kernel)) ggX7_years_X6_age
theorem dX7_years_0 : decode cX7_years 0 = .ok (.iload_n 1, 1) := by decide +kernel
theorem dX7_years_1 : decode cX7_years 1 = .ok (.iconst 0, 1) := by decide +kernel
theorem dX7_years_2 : decode cX7_years 2 = .ok (.bipush 40, 2) := by decide +kernel
theorem dX7_years_4 : decode cX7_years 4 = .ok (.aload_n 0, 1) := by decide +kernel
theorem dX7_years_5 : decode cX7_years 5 = .ok (.getfield 20, 3) := by decide +kernel
theorem dX7_years_8 : decode cX7_years 8 = .ok (.getfield 122, 3) := by decide +kernel
theorem dX7_years_11 : decode cX7_years 11 = .ok (.isub, 1) := by decide +kernel
theorem dX7_years_12 : decode cX7_years 12 = .ok (.invokestatic 108, 3) := by decide +kernel
theorem dX7_years_15 : decode cX7_years 15 = .ok (.ifCond .ne 6, 3) := by decide +kernel
theorem dX7_years_18 : decode cX7_years 18 = .ok (.bipush (-2), 2) := by decide +kernel
theorem dX7_years_20 : decode cX7_years 20 = .ok (.ireturn, 1) := by decide +kernel
theorem dX7_years_21 : decode cX7_years 21 = .ok (.aload_n 0, 1) := by decide +kernel
theorem dX7_years_22 : decode cX7_years 22 = .ok (.getfield 20, 3) := by decide +kernel
theorem dX7_years_25 : decode cX7_years 25 = .ok (.invokevirtual 112, 3) := by decide +kernel
theorem dX7_years_28 : decode cX7_years 28 = .ok (.ifCond .ne 6, 3) := by decide +kernel
theorem dX7_years_31 : decode cX7_years 31 = .ok (.bipush (-3), 2) := by decide +kernel
theorem dX7_years_33 : decode cX7_years 33 = .ok (.ireturn, 1) := by decide +kernel
theorem dX7_years_34 : decode cX7_years 34 = .ok (.aload_n 0, 1) := by decide +kernel
theorem dX7_years_35 : decode cX7_years 35 = .ok (.getfield 20, 3) := by decide +kernel
theorem dX7_years_38 : decode cX7_years 38 = .ok (.iload_n 1, 1) := by decide +kernel
theorem dX7_years_39 : decode cX7_years 39 = .ok (.invokevirtual 125, 3) := by decide +kernel
theorem dX7_years_42 : decode cX7_years 42 = .ok (.aload_n 0, 1) := by decide +kernel
theorem dX7_years_43 : decode cX7_years 43 = .ok (.getfield 20, 3) := by decide +kernel
theorem dX7_years_46 : decode cX7_years 46 = .ok (.getfield 122, 3) := by decide +kernel
theorem dX7_years_49 : decode cX7_years 49 = .ok (.ireturn, 1) := by decide +kernel
set_option maxRecDepth 20000 in
theorem ggX7_hang_X6_hasCell : GoodIn wsX7_hang wsX6_hasCell := goodIn_r _ [8, 9, 17, 18, 19, 20, 21, 22, 23, 24, 25, 26, 27] (by decide +kernel) (by decide +kernel)
set_option maxRecDepth 20000 in
theorem gX7_hang_X6_hasCell : GoodIn wsX7_hang (wsV RX7 83 RX6 yX6_hasCell wsX6_hasCell) := goodIn_app (goodIn_of _ (by decide +kernel)) ggX7_hang_X6_hasCell
theorem dX7_hang_0 : decode cX7_hang 0 = .ok (.aload_n 0, 1) := by decide +kernel
theorem dX7_hang_1 : decode cX7_hang 1 = .ok (.getfield 20, 3) := by decide +kernel
theorem dX7_hang_4 : decode cX7_hang 4 = .ok (.iload_n 1, 1) := by decide +kernel
theorem dX7_hang_5 : decode cX7_hang 5 = .ok (.invokevirtual 83, 3) := by decide +kernel
theorem dX7_hang_8 : decode cX7_hang 8 = .ok (.ifCond .ne 5, 3) := by decide +kernel
theorem dX7_hang_11 : decode cX7_hang 11 = .ok (.iconst (-1), 1) := by decide +kernel
theorem dX7_hang_12 : decode cX7_hang 12 = .ok (.ireturn, 1) := by decide +kernel
theorem dX7_hang_13 : decode cX7_hang 13 = .ok (.aload_n 0, 1) := by decide +kernel
theorem dX7_hang_14 : decode cX7_hang 14 = .ok (.getfield 20, 3) := by decide +kernel
theorem dX7_hang_17 : decode cX7_hang 17 = .ok (.getfield 86, 3) := by decide +kernel
theorem dX7_hang_20 : decode cX7_hang 20 = .ok (.iload_n 1, 1) := by decide +kernel
theorem dX7_hang_21 : decode cX7_hang 21 = .ok (.aaload, 1) := by decide +kernel
theorem dX7_hang_22 : decode cX7_hang 22 = .ok (.astore_n 3, 1) := by decide +kernel
theorem dX7_hang_23 : decode cX7_hang 23 = .ok (.aload_n 3, 1) := by decide +kernel
theorem dX7_hang_24 : decode cX7_hang 24 = .ok (.getfield 104, 3) := by decide +kernel
theorem dX7_hang_27 : decode cX7_hang 27 = .ok (.istore 4, 2) := by decide +kernel
theorem dX7_hang_29 : decode cX7_hang 29 = .ok (.aload_n 3, 1) := by decide +kernel
theorem dX7_hang_30 : decode cX7_hang 30 = .ok (.iload_n 2, 1) := by decide +kernel
theorem dX7_hang_31 : decode cX7_hang 31 = .ok (.putfield 104, 3) := by decide +kernel
theorem dX7_hang_34 : decode cX7_hang 34 = .ok (.iload 4, 2) := by decide +kernel
theorem dX7_hang_36 : decode cX7_hang 36 = .ok (.iload_n 2, 1) := by decide +kernel
theorem dX7_hang_37 : decode cX7_hang 37 = .ok (.if_icmp .ne 7, 3) := by decide +kernel
theorem dX7_hang_40 : decode cX7_hang 40 = .ok (.iconst 0, 1) := by decide +kernel
theorem dX7_hang_41 : decode cX7_hang 41 = .ok (.goto 4, 3) := by decide +kernel
theorem dX7_hang_44 : decode cX7_hang 44 = .ok (.iconst 1, 1) := by decide +kernel
theorem dX7_hang_45 : decode cX7_hang 45 = .ok (.ireturn, 1) := by decide +kernel
set_option maxRecDepth 20000 in
theorem ggX7_coat_X7_isKind : GoodIn wsX7_coat wsX7_isKind := goodIn_r _ [6, 7, 8, 5, 9] (by decide +kernel) (by decide +kernel)
set_option maxRecDepth 20000 in
theorem gX7_coat_X7_isKind : GoodIn wsX7_coat (va_wsS RX7 129 yX7_isKind wsX7_isKind) := goodIn_app (goodIn_of _ (by decide +kernel)) ggX7_coat_X7_isKind
set_option maxRecDepth 20000 in
theorem ggX7_coat_X7_areWithin : GoodIn wsX7_coat wsX7_areWithin := goodIn_r _ [12, 7, 8, 5, 9] (by decide +kernel) (by decide +kernel)
set_option maxRecDepth 20000 in
theorem gX7_coat_X7_areWithin : GoodIn wsX7_coat (va_wsS RX7 132 yX7_areWithin wsX7_areWithin) := goodIn_app (goodIn_of _ (by decide +kernel)) ggX7_coat_X7_areWithin
set_option maxRecDepth 20000 in
theorem ggX7_coat_X6_stands : GoodIn wsX7_coat wsX6_stands := goodIn_r _ [17, 18, 34, 35, 36, 37, 38, 39, 40, 41, 42, 43, 44] (by decide +kernel) (by decide +kernel)
set_option maxRecDepth 20000 in
theorem gX7_coat_X6_stands : GoodIn wsX7_coat (wsV RX7 112 RX6 yX6_stands wsX6_stands) := goodIn_app (goodIn_of _ (by decide +kernel)) ggX7_coat_X6_stands
set_option maxRecDepth 20000 in
theorem ggX7_coat_X6_addCoat : GoodIn wsX7_coat wsX6_addCoat := goodIn_r _ [22, 23, 24, 25, 26, 34, 35, 36, 37, 38, 39, 40, 41, 42, 43, 44, 45, 46] (by decide +kernel) (by decide +kernel)
set_option maxRecDepth 20000 in
theorem gX7_coat_X6_addCoat : GoodIn wsX7_coat (wsV RX7 139 RX6 yX6_addCoat wsX6_addCoat) := goodIn_app (goodIn_of _ (by decide +kernel)) ggX7_coat_X6_addCoat
theorem dX7_coat_0 : decode cX7_coat 0 = .ok (.iload_n 1, 1) := by decide +kernel
theorem dX7_coat_1 : decode cX7_coat 1 = .ok (.invokestatic 129, 3) := by decide +kernel
theorem dX7_coat_4 : decode cX7_coat 4 = .ok (.ifCond .eq 15, 3) := by decide +kernel
theorem dX7_coat_7 : decode cX7_coat 7 = .ok (.iload_n 2, 1) := by decide +kernel
theorem dX7_coat_8 : decode cX7_coat 8 = .ok (.iload_n 3, 1) := by decide +kernel
theorem dX7_coat_9 : decode cX7_coat 9 = .ok (.iload 4, 2) := by decide +kernel
theorem dX7_coat_11 : decode cX7_coat 11 = .ok (.bipush 99, 2) := by decide +kernel
theorem dX7_coat_13 : decode cX7_coat 13 = .ok (.invokestatic 132, 3) := by decide +kernel
theorem dX7_coat_16 : decode cX7_coat 16 = .ok (.ifCond .ne 6, 3) := by decide +kernel
theorem dX7_coat_19 : decode cX7_coat 19 = .ok (.bipush (-2), 2) := by decide +kernel
theorem dX7_coat_21 : decode cX7_coat 21 = .ok (.ireturn, 1) := by decide +kernel
theorem dX7_coat_22 : decode cX7_coat 22 = .ok (.aload_n 0, 1) := by decide +kernel
theorem dX7_coat_23 : decode cX7_coat 23 = .ok (.getfield 20, 3) := by decide +kernel
theorem dX7_coat_26 : decode cX7_coat 26 = .ok (.invokevirtual 112, 3) := by decide +kernel
theorem dX7_coat_29 : decode cX7_coat 29 = .ok (.ifCond .ne 6, 3) := by decide +kernel
theorem dX7_coat_32 : decode cX7_coat 32 = .ok (.bipush (-3), 2) := by decide +kernel
theorem dX7_coat_34 : decode cX7_coat 34 = .ok (.ireturn, 1) := by decide +kernel
theorem dX7_coat_35 : decode cX7_coat 35 = .ok (.aload_n 0, 1) := by decide +kernel
theorem dX7_coat_36 : decode cX7_coat 36 = .ok (.getfield 20, 3) := by decide +kernel
theorem dX7_coat_39 : decode cX7_coat 39 = .ok (.getfield 136, 3) := by decide +kernel
theorem dX7_coat_42 : decode cX7_coat 42 = .ok (.bipush 6, 2) := by decide +kernel
theorem dX7_coat_44 : decode cX7_coat 44 = .ok (.if_icmp .lt 6, 3) := by decide +kernel
theorem dX7_coat_47 : decode cX7_coat 47 = .ok (.bipush (-4), 2) := by decide +kernel
theorem dX7_coat_49 : decode cX7_coat 49 = .ok (.ireturn, 1) := by decide +kernel
theorem dX7_coat_50 : decode cX7_coat 50 = .ok (.aload_n 0, 1) := by decide +kernel
theorem dX7_coat_51 : decode cX7_coat 51 = .ok (.getfield 20, 3) := by decide +kernel
theorem dX7_coat_54 : decode cX7_coat 54 = .ok (.iload_n 1, 1) := by decide +kernel
theorem dX7_coat_55 : decode cX7_coat 55 = .ok (.iload_n 2, 1) := by decide +kernel
theorem dX7_coat_56 : decode cX7_coat 56 = .ok (.iload_n 3, 1) := by decide +kernel
theorem dX7_coat_57 : decode cX7_coat 57 = .ok (.iload 4, 2) := by decide +kernel
theorem dX7_coat_59 : decode cX7_coat 59 = .ok (.invokevirtual 139, 3) := by decide +kernel
theorem dX7_coat_62 : decode cX7_coat 62 = .ok (.ireturn, 1) := by decide +kernel
set_option maxRecDepth 20000 in
theorem ggX7_ofCoat_X6_hasCoat : GoodIn wsX7_ofCoat wsX6_hasCoat := goodIn_r _ [9, 10, 22, 23, 24, 25, 26, 27, 28, 29, 30, 31, 32] (by decide +kernel) (by decide +kernel)
set_option maxRecDepth 20000 in
theorem gX7_ofCoat_X6_hasCoat : GoodIn wsX7_ofCoat (wsV RX7 143 RX6 yX6_hasCoat wsX6_hasCoat) := goodIn_app (goodIn_of _ (by decide +kernel)) ggX7_ofCoat_X6_hasCoat
set_option maxRecDepth 20000 in
theorem ggX7_ofCoat_X7_isWithin : GoodIn wsX7_ofCoat wsX7_isWithin := goodIn_r _ [14] (by decide +kernel) (by decide +kernel)
set_option maxRecDepth 20000 in
theorem gX7_ofCoat_X7_isWithin : GoodIn wsX7_ofCoat (va_wsS RX7 108 yX7_isWithin wsX7_isWithin) := goodIn_app (goodIn_of _ (by decide +kernel)) ggX7_ofCoat_X7_isWithin
theorem dX7_ofCoat_0 : decode cX7_ofCoat 0 = .ok (.aload_n 0, 1) := by decide +kernel
theorem dX7_ofCoat_1 : decode cX7_ofCoat 1 = .ok (.getfield 20, 3) := by decide +kernel
theorem dX7_ofCoat_4 : decode cX7_ofCoat 4 = .ok (.iload_n 1, 1) := by decide +kernel
theorem dX7_ofCoat_5 : decode cX7_ofCoat 5 = .ok (.invokevirtual 143, 3) := by decide +kernel
theorem dX7_ofCoat_8 : decode cX7_ofCoat 8 = .ok (.ifCond .ne 5, 3) := by decide +kernel
theorem dX7_ofCoat_11 : decode cX7_ofCoat 11 = .ok (.iconst (-1), 1) := by decide +kernel
theorem dX7_ofCoat_12 : decode cX7_ofCoat 12 = .ok (.ireturn, 1) := by decide +kernel
theorem dX7_ofCoat_13 : decode cX7_ofCoat 13 = .ok (.iload_n 2, 1) := by decide +kernel
theorem dX7_ofCoat_14 : decode cX7_ofCoat 14 = .ok (.iconst (-1), 1) := by decide +kernel
theorem dX7_ofCoat_15 : decode cX7_ofCoat 15 = .ok (.iconst 2, 1) := by decide +kernel
theorem dX7_ofCoat_16 : decode cX7_ofCoat 16 = .ok (.invokestatic 108, 3) := by decide +kernel
theorem dX7_ofCoat_19 : decode cX7_ofCoat 19 = .ok (.ifCond .ne 6, 3) := by decide +kernel
theorem dX7_ofCoat_22 : decode cX7_ofCoat 22 = .ok (.bipush (-2), 2) := by decide +kernel
theorem dX7_ofCoat_24 : decode cX7_ofCoat 24 = .ok (.ireturn, 1) := by decide +kernel
theorem dX7_ofCoat_25 : decode cX7_ofCoat 25 = .ok (.aload_n 0, 1) := by decide +kernel
theorem dX7_ofCoat_26 : decode cX7_ofCoat 26 = .ok (.getfield 20, 3) := by decide +kernel
theorem dX7_ofCoat_29 : decode cX7_ofCoat 29 = .ok (.getfield 146, 3) := by decide +kernel
theorem dX7_ofCoat_32 : decode cX7_ofCoat 32 = .ok (.iload_n 1, 1) := by decide +kernel
theorem dX7_ofCoat_33 : decode cX7_ofCoat 33 = .ok (.aaload, 1) := by decide +kernel
theorem dX7_ofCoat_34 : decode cX7_ofCoat 34 = .ok (.astore_n 3, 1) := by decide +kernel
theorem dX7_ofCoat_35 : decode cX7_ofCoat 35 = .ok (.iload_n 2, 1) := by decide +kernel
theorem dX7_ofCoat_36 : decode cX7_ofCoat 36 = .ok (.ifCond .ge 10, 3) := by decide +kernel
theorem dX7_ofCoat_39 : decode cX7_ofCoat 39 = .ok (.aload_n 3, 1) := by decide +kernel
theorem dX7_ofCoat_40 : decode cX7_ofCoat 40 = .ok (.getfield 150, 3) := by decide +kernel
theorem dX7_ofCoat_43 : decode cX7_ofCoat 43 = .ok (.goto 9, 3) := by decide +kernel
theorem dX7_ofCoat_46 : decode cX7_ofCoat 46 = .ok (.aload_n 3, 1) := by decide +kernel
theorem dX7_ofCoat_47 : decode cX7_ofCoat 47 = .ok (.getfield 155, 3) := by decide +kernel
theorem dX7_ofCoat_50 : decode cX7_ofCoat 50 = .ok (.iload_n 2, 1) := by decide +kernel
theorem dX7_ofCoat_51 : decode cX7_ofCoat 51 = .ok (.iaload, 1) := by decide +kernel
theorem dX7_ofCoat_52 : decode cX7_ofCoat 52 = .ok (.ireturn, 1) := by decide +kernel
set_option maxRecDepth 20000 in
theorem ggX7_paint_X6_hasCell : GoodIn wsX7_paint wsX6_hasCell := goodIn_r _ [8, 9, 30, 31, 32, 33, 34, 35, 36, 37, 38, 39, 40] (by decide +kernel) (by decide +kernel)
set_option maxRecDepth 20000 in
theorem gX7_paint_X6_hasCell : GoodIn wsX7_paint (wsV RX7 83 RX6 yX6_hasCell wsX6_hasCell) := goodIn_app (goodIn_of _ (by decide +kernel)) ggX7_paint_X6_hasCell
set_option maxRecDepth 20000 in
theorem ggX7_paint_X6_hasCoat : GoodIn wsX7_paint wsX6_hasCoat := goodIn_r _ [13, 14, 30, 31, 32, 33, 34, 35, 36, 37, 38, 39, 40] (by decide +kernel) (by decide +kernel)
set_option maxRecDepth 20000 in
theorem gX7_paint_X6_hasCoat : GoodIn wsX7_paint (wsV RX7 143 RX6 yX6_hasCoat wsX6_hasCoat) := goodIn_app (goodIn_of _ (by decide +kernel)) ggX7_paint_X6_hasCoat
set_option maxRecDepth 20000 in
theorem ggX7_paint_X0_takeFresh : GoodIn wsX7_paint wsX0_takeFresh := goodIn_r _ [19, 20, 21, 22, 41, 42, 43, 44, 45] (by decide +kernel) (by decide +kernel)
set_option maxRecDepth 20000 in
theorem gX7_paint_X0_takeFresh : GoodIn wsX7_paint (wsV RX7 159 RX0 yX0_takeFresh wsX0_takeFresh) := goodIn_app (goodIn_of _ (by decide +kernel)) ggX7_paint_X0_takeFresh
theorem dX7_paint_0 : decode cX7_paint 0 = .ok (.aload_n 0, 1) := by decide +kernel
theorem dX7_paint_1 : decode cX7_paint 1 = .ok (.getfield 20, 3) := by decide +kernel
theorem dX7_paint_4 : decode cX7_paint 4 = .ok (.iload_n 1, 1) := by decide +kernel
theorem dX7_paint_5 : decode cX7_paint 5 = .ok (.invokevirtual 83, 3) := by decide +kernel
theorem dX7_paint_8 : decode cX7_paint 8 = .ok (.ifCond .eq 14, 3) := by decide +kernel
theorem dX7_paint_11 : decode cX7_paint 11 = .ok (.aload_n 0, 1) := by decide +kernel
theorem dX7_paint_12 : decode cX7_paint 12 = .ok (.getfield 20, 3) := by decide +kernel
theorem dX7_paint_15 : decode cX7_paint 15 = .ok (.iload_n 2, 1) := by decide +kernel
theorem dX7_paint_16 : decode cX7_paint 16 = .ok (.invokevirtual 143, 3) := by decide +kernel
theorem dX7_paint_19 : decode cX7_paint 19 = .ok (.ifCond .ne 5, 3) := by decide +kernel
theorem dX7_paint_22 : decode cX7_paint 22 = .ok (.iconst (-1), 1) := by decide +kernel
theorem dX7_paint_23 : decode cX7_paint 23 = .ok (.ireturn, 1) := by decide +kernel
theorem dX7_paint_24 : decode cX7_paint 24 = .ok (.aload_n 0, 1) := by decide +kernel
theorem dX7_paint_25 : decode cX7_paint 25 = .ok (.getfield 20, 3) := by decide +kernel
theorem dX7_paint_28 : decode cX7_paint 28 = .ok (.getfield 86, 3) := by decide +kernel
theorem dX7_paint_31 : decode cX7_paint 31 = .ok (.iload_n 1, 1) := by decide +kernel
theorem dX7_paint_32 : decode cX7_paint 32 = .ok (.aaload, 1) := by decide +kernel
theorem dX7_paint_33 : decode cX7_paint 33 = .ok (.astore_n 3, 1) := by decide +kernel
theorem dX7_paint_34 : decode cX7_paint 34 = .ok (.aload_n 3, 1) := by decide +kernel
theorem dX7_paint_35 : decode cX7_paint 35 = .ok (.getfield 95, 3) := by decide +kernel
theorem dX7_paint_38 : decode cX7_paint 38 = .ok (.istore 4, 2) := by decide +kernel
theorem dX7_paint_40 : decode cX7_paint 40 = .ok (.aload_n 3, 1) := by decide +kernel
theorem dX7_paint_41 : decode cX7_paint 41 = .ok (.iload_n 2, 1) := by decide +kernel
theorem dX7_paint_42 : decode cX7_paint 42 = .ok (.invokevirtual 159, 3) := by decide +kernel
theorem dX7_paint_45 : decode cX7_paint 45 = .ok (.iload 4, 2) := by decide +kernel
theorem dX7_paint_47 : decode cX7_paint 47 = .ok (.ireturn, 1) := by decide +kernel
set_option maxRecDepth 20000 in
theorem ggX7_back_X6_hasCell : GoodIn wsX7_back wsX6_hasCell := goodIn_r _ [12, 13, 40, 41, 42, 43, 44, 45, 46, 47, 48, 49, 50] (by decide +kernel) (by decide +kernel)
set_option maxRecDepth 20000 in
theorem gX7_back_X6_hasCell : GoodIn wsX7_back (wsV RX7 83 RX6 yX6_hasCell wsX6_hasCell) := goodIn_app (goodIn_of _ (by decide +kernel)) ggX7_back_X6_hasCell
set_option maxRecDepth 20000 in
theorem ggX7_back_X7_isWithin : GoodIn wsX7_back wsX7_isWithin := goodIn_r _ [17] (by decide +kernel) (by decide +kernel)
set_option maxRecDepth 20000 in
theorem gX7_back_X7_isWithin : GoodIn wsX7_back (va_wsS RX7 108 yX7_isWithin wsX7_isWithin) := goodIn_app (goodIn_of _ (by decide +kernel)) ggX7_back_X7_isWithin
set_option maxRecDepth 20000 in
theorem ggX7_back_X1_comesBack : GoodIn wsX7_back wsX1_comesBack := goodIn_r _ [22, 23, 24, 25, 26, 27, 28, 29, 30, 31, 21, 32, 56, 57] (by decide +kernel) (by decide +kernel)
set_option maxRecDepth 20000 in
theorem gX7_back_X1_comesBack : GoodIn wsX7_back (wsV RX7 162 RX1 yX1_comesBack wsX1_comesBack) := goodIn_app (goodIn_of _ (by decide +kernel)) ggX7_back_X1_comesBack
theorem dX7_back_0 : decode cX7_back 0 = .ok (.aload_n 0, 1) := by decide +kernel
theorem dX7_back_1 : decode cX7_back 1 = .ok (.getfield 20, 3) := by decide +kernel
theorem dX7_back_4 : decode cX7_back 4 = .ok (.iload_n 1, 1) := by decide +kernel
theorem dX7_back_5 : decode cX7_back 5 = .ok (.invokevirtual 83, 3) := by decide +kernel
theorem dX7_back_8 : decode cX7_back 8 = .ok (.ifCond .ne 5, 3) := by decide +kernel
theorem dX7_back_11 : decode cX7_back 11 = .ok (.iconst (-1), 1) := by decide +kernel
theorem dX7_back_12 : decode cX7_back 12 = .ok (.ireturn, 1) := by decide +kernel
theorem dX7_back_13 : decode cX7_back 13 = .ok (.iload_n 2, 1) := by decide +kernel
theorem dX7_back_14 : decode cX7_back 14 = .ok (.iconst 0, 1) := by decide +kernel
theorem dX7_back_15 : decode cX7_back 15 = .ok (.iconst 2, 1) := by decide +kernel
theorem dX7_back_16 : decode cX7_back 16 = .ok (.invokestatic 108, 3) := by decide +kernel
theorem dX7_back_19 : decode cX7_back 19 = .ok (.ifCond .ne 6, 3) := by decide +kernel
theorem dX7_back_22 : decode cX7_back 22 = .ok (.bipush (-2), 2) := by decide +kernel
theorem dX7_back_24 : decode cX7_back 24 = .ok (.ireturn, 1) := by decide +kernel
theorem dX7_back_25 : decode cX7_back 25 = .ok (.aload_n 0, 1) := by decide +kernel
theorem dX7_back_26 : decode cX7_back 26 = .ok (.getfield 20, 3) := by decide +kernel
theorem dX7_back_29 : decode cX7_back 29 = .ok (.getfield 86, 3) := by decide +kernel
theorem dX7_back_32 : decode cX7_back 32 = .ok (.iload_n 1, 1) := by decide +kernel
theorem dX7_back_33 : decode cX7_back 33 = .ok (.aaload, 1) := by decide +kernel
theorem dX7_back_34 : decode cX7_back 34 = .ok (.astore 4, 2) := by decide +kernel
theorem dX7_back_36 : decode cX7_back 36 = .ok (.aload_n 0, 1) := by decide +kernel
theorem dX7_back_37 : decode cX7_back 37 = .ok (.getfield 20, 3) := by decide +kernel
theorem dX7_back_40 : decode cX7_back 40 = .ok (.getfield 146, 3) := by decide +kernel
theorem dX7_back_43 : decode cX7_back 43 = .ok (.aload 4, 2) := by decide +kernel
theorem dX7_back_45 : decode cX7_back 45 = .ok (.getfield 95, 3) := by decide +kernel
theorem dX7_back_48 : decode cX7_back 48 = .ok (.aaload, 1) := by decide +kernel
theorem dX7_back_49 : decode cX7_back 49 = .ok (.iload_n 2, 1) := by decide +kernel
theorem dX7_back_50 : decode cX7_back 50 = .ok (.aload 4, 2) := by decide +kernel
theorem dX7_back_52 : decode cX7_back 52 = .ok (.getfield 98, 3) := by decide +kernel
theorem dX7_back_55 : decode cX7_back 55 = .ok (.aload 4, 2) := by decide +kernel
theorem dX7_back_57 : decode cX7_back 57 = .ok (.getfield 101, 3) := by decide +kernel
theorem dX7_back_60 : decode cX7_back 60 = .ok (.aload_n 0, 1) := by decide +kernel
theorem dX7_back_61 : decode cX7_back 61 = .ok (.getfield 20, 3) := by decide +kernel
theorem dX7_back_64 : decode cX7_back 64 = .ok (.getfield 116, 3) := by decide +kernel
theorem dX7_back_67 : decode cX7_back 67 = .ok (.iload_n 3, 1) := by decide +kernel
theorem dX7_back_68 : decode cX7_back 68 = .ok (.invokevirtual 162, 3) := by decide +kernel
theorem dX7_back_71 : decode cX7_back 71 = .ok (.ireturn, 1) := by decide +kernel
set_option maxRecDepth 20000 in
theorem ggX7_light_X7_areWithin : GoodIn wsX7_light wsX7_areWithin := goodIn_r _ [6, 7, 8, 5, 9] (by decide +kernel) (by decide +kernel)
set_option maxRecDepth 20000 in
theorem gX7_light_X7_areWithin : GoodIn wsX7_light (va_wsS RX7 132 yX7_areWithin wsX7_areWithin) := goodIn_app (goodIn_of _ (by decide +kernel)) ggX7_light_X7_areWithin
set_option maxRecDepth 20000 in
theorem ggX7_light_X6_stands : GoodIn wsX7_light wsX6_stands := goodIn_r _ [14, 15, 29, 30, 31, 32, 33, 34, 35, 36, 37, 38, 39] (by decide +kernel) (by decide +kernel)
set_option maxRecDepth 20000 in
theorem gX7_light_X6_stands : GoodIn wsX7_light (wsV RX7 112 RX6 yX6_stands wsX6_stands) := goodIn_app (goodIn_of _ (by decide +kernel)) ggX7_light_X6_stands
set_option maxRecDepth 20000 in
theorem ggX7_light_X6_addLight : GoodIn wsX7_light wsX6_addLight := goodIn_r _ [19, 20, 21, 29, 30, 31, 32, 33, 34, 35, 36, 37, 38, 39] (by decide +kernel) (by decide +kernel)
set_option maxRecDepth 20000 in
theorem gX7_light_X6_addLight : GoodIn wsX7_light (wsV RX7 169 RX6 yX6_addLight wsX6_addLight) := goodIn_app (goodIn_of _ (by decide +kernel)) ggX7_light_X6_addLight
theorem dX7_light_0 : decode cX7_light 0 = .ok (.iload_n 1, 1) := by decide +kernel
theorem dX7_light_1 : decode cX7_light 1 = .ok (.iload_n 2, 1) := by decide +kernel
theorem dX7_light_2 : decode cX7_light 2 = .ok (.iload_n 3, 1) := by decide +kernel
theorem dX7_light_3 : decode cX7_light 3 = .ok (.bipush 9, 2) := by decide +kernel
theorem dX7_light_5 : decode cX7_light 5 = .ok (.invokestatic 132, 3) := by decide +kernel
theorem dX7_light_8 : decode cX7_light 8 = .ok (.ifCond .ne 6, 3) := by decide +kernel
theorem dX7_light_11 : decode cX7_light 11 = .ok (.bipush (-2), 2) := by decide +kernel
theorem dX7_light_13 : decode cX7_light 13 = .ok (.ireturn, 1) := by decide +kernel
theorem dX7_light_14 : decode cX7_light 14 = .ok (.aload_n 0, 1) := by decide +kernel
theorem dX7_light_15 : decode cX7_light 15 = .ok (.getfield 20, 3) := by decide +kernel
theorem dX7_light_18 : decode cX7_light 18 = .ok (.invokevirtual 112, 3) := by decide +kernel
theorem dX7_light_21 : decode cX7_light 21 = .ok (.ifCond .ne 6, 3) := by decide +kernel
theorem dX7_light_24 : decode cX7_light 24 = .ok (.bipush (-3), 2) := by decide +kernel
theorem dX7_light_26 : decode cX7_light 26 = .ok (.ireturn, 1) := by decide +kernel
theorem dX7_light_27 : decode cX7_light 27 = .ok (.aload_n 0, 1) := by decide +kernel
theorem dX7_light_28 : decode cX7_light 28 = .ok (.getfield 20, 3) := by decide +kernel
theorem dX7_light_31 : decode cX7_light 31 = .ok (.getfield 166, 3) := by decide +kernel
theorem dX7_light_34 : decode cX7_light 34 = .ok (.iconst 4, 1) := by decide +kernel
theorem dX7_light_35 : decode cX7_light 35 = .ok (.if_icmp .lt 6, 3) := by decide +kernel
theorem dX7_light_38 : decode cX7_light 38 = .ok (.bipush (-4), 2) := by decide +kernel
theorem dX7_light_40 : decode cX7_light 40 = .ok (.ireturn, 1) := by decide +kernel
theorem dX7_light_41 : decode cX7_light 41 = .ok (.aload_n 0, 1) := by decide +kernel
theorem dX7_light_42 : decode cX7_light 42 = .ok (.getfield 20, 3) := by decide +kernel
theorem dX7_light_45 : decode cX7_light 45 = .ok (.iload_n 1, 1) := by decide +kernel
theorem dX7_light_46 : decode cX7_light 46 = .ok (.iload_n 2, 1) := by decide +kernel
theorem dX7_light_47 : decode cX7_light 47 = .ok (.iload_n 3, 1) := by decide +kernel
theorem dX7_light_48 : decode cX7_light 48 = .ok (.invokevirtual 169, 3) := by decide +kernel
theorem dX7_light_51 : decode cX7_light 51 = .ok (.ireturn, 1) := by decide +kernel
set_option maxRecDepth 20000 in
theorem ggX7_look_X6_hasCell : GoodIn wsX7_look wsX6_hasCell := goodIn_r _ [6, 7, 50, 51, 52, 53, 54, 55, 56, 57, 58, 59, 60] (by decide +kernel) (by decide +kernel)
set_option maxRecDepth 20000 in
theorem gX7_look_X6_hasCell : GoodIn wsX7_look (wsV RX7 83 RX6 yX6_hasCell wsX6_hasCell) := goodIn_app (goodIn_of _ (by decide +kernel)) ggX7_look_X6_hasCell
set_option maxRecDepth 20000 in
theorem ggX7_look_X6_hasLight : GoodIn wsX7_look wsX6_hasLight := goodIn_r _ [11, 12, 50, 51, 52, 53, 54, 55, 56, 57, 58, 59, 60] (by decide +kernel) (by decide +kernel)
set_option maxRecDepth 20000 in
theorem gX7_look_X6_hasLight : GoodIn wsX7_look (wsV RX7 173 RX6 yX6_hasLight wsX6_hasLight) := goodIn_app (goodIn_of _ (by decide +kernel)) ggX7_look_X6_hasLight
set_option maxRecDepth 20000 in
theorem ggX7_look_X6_lookOfCell : GoodIn wsX7_look wsX6_lookOfCell := goodIn_r _ [16, 17, 18, 19, 20, 21, 22, 23, 24, 5, 25, 26, 27, 28, 29, 30, 31, 32, 33, 34, 35, 36, 37, 38, 39, 40, 41, 42, 50, 51, 52, 53, 54, 55, 56, 57, 58, 59, 60, 61, 62, 63, 64, 65, 66, 67] (by decide +kernel) (by decide +kernel)
set_option maxRecDepth 20000 in
theorem gX7_look_X6_lookOfCell : GoodIn wsX7_look (wsV RX7 176 RX6 yX6_lookOfCell wsX6_lookOfCell) := goodIn_app (goodIn_of _ (by decide +kernel)) ggX7_look_X6_lookOfCell
theorem dX7_look_0 : decode cX7_look 0 = .ok (.aload_n 0, 1) := by decide +kernel
theorem dX7_look_1 : decode cX7_look 1 = .ok (.getfield 20, 3) := by decide +kernel
theorem dX7_look_4 : decode cX7_look 4 = .ok (.iload_n 1, 1) := by decide +kernel
theorem dX7_look_5 : decode cX7_look 5 = .ok (.invokevirtual 83, 3) := by decide +kernel
theorem dX7_look_8 : decode cX7_look 8 = .ok (.ifCond .eq 14, 3) := by decide +kernel
theorem dX7_look_11 : decode cX7_look 11 = .ok (.aload_n 0, 1) := by decide +kernel
theorem dX7_look_12 : decode cX7_look 12 = .ok (.getfield 20, 3) := by decide +kernel
theorem dX7_look_15 : decode cX7_look 15 = .ok (.iload_n 2, 1) := by decide +kernel
theorem dX7_look_16 : decode cX7_look 16 = .ok (.invokevirtual 173, 3) := by decide +kernel
theorem dX7_look_19 : decode cX7_look 19 = .ok (.ifCond .ne 5, 3) := by decide +kernel
theorem dX7_look_22 : decode cX7_look 22 = .ok (.iconst (-1), 1) := by decide +kernel
theorem dX7_look_23 : decode cX7_look 23 = .ok (.ireturn, 1) := by decide +kernel
theorem dX7_look_24 : decode cX7_look 24 = .ok (.aload_n 0, 1) := by decide +kernel
theorem dX7_look_25 : decode cX7_look 25 = .ok (.getfield 20, 3) := by decide +kernel
theorem dX7_look_28 : decode cX7_look 28 = .ok (.iload_n 1, 1) := by decide +kernel
theorem dX7_look_29 : decode cX7_look 29 = .ok (.iload_n 2, 1) := by decide +kernel
theorem dX7_look_30 : decode cX7_look 30 = .ok (.iload_n 3, 1) := by decide +kernel
theorem dX7_look_31 : decode cX7_look 31 = .ok (.invokevirtual 176, 3) := by decide +kernel
theorem dX7_look_34 : decode cX7_look 34 = .ok (.ireturn, 1) := by decide +kernel
set_option maxRecDepth 20000 in
theorem ggX7_unlike_X6_hasCell : GoodIn wsX7_unlike wsX6_hasCell := goodIn_r _ [10, 11, 53, 54, 55, 56, 57, 58, 59, 60, 61, 62, 63] (by decide +kernel) (by decide +kernel)
set_option maxRecDepth 20000 in
theorem gX7_unlike_X6_hasCell : GoodIn wsX7_unlike (wsV RX7 83 RX6 yX6_hasCell wsX6_hasCell) := goodIn_app (goodIn_of _ (by decide +kernel)) ggX7_unlike_X6_hasCell
set_option maxRecDepth 20000 in
theorem ggX7_unlike_X6_hasLight : GoodIn wsX7_unlike wsX6_hasLight := goodIn_r _ [15, 16, 53, 54, 55, 56, 57, 58, 59, 60, 61, 62, 63] (by decide +kernel) (by decide +kernel)
set_option maxRecDepth 20000 in
theorem gX7_unlike_X6_hasLight : GoodIn wsX7_unlike (wsV RX7 173 RX6 yX6_hasLight wsX6_hasLight) := goodIn_app (goodIn_of _ (by decide +kernel)) ggX7_unlike_X6_hasLight
set_option maxRecDepth 20000 in
theorem ggX7_unlike_X6_lookOfCell : GoodIn wsX7_unlike wsX6_lookOfCell := goodIn_r _ [20, 21, 22, 23, 24, 25, 26, 27, 28, 9, 29, 30, 31, 32, 33, 34, 35, 36, 37, 38, 39, 4, 40, 41, 42, 43, 44, 45, 53, 54, 55, 56, 57, 58, 59, 60, 61, 62, 63, 64, 65, 66, 67, 68, 69, 70] (by decide +kernel) (by decide +kernel)
set_option maxRecDepth 20000 in
theorem gX7_unlike_X6_lookOfCell : GoodIn wsX7_unlike (wsV RX7 176 RX6 yX6_lookOfCell wsX6_lookOfCell) := goodIn_app (goodIn_of _ (by decide +kernel)) ggX7_unlike_X6_lookOfCell
theorem dX7_unlike_0 : decode cX7_unlike 0 = .ok (.aload_n 0, 1) := by decide +kernel
theorem dX7_unlike_1 : decode cX7_unlike 1 = .ok (.getfield 20, 3) := by decide +kernel
theorem dX7_unlike_4 : decode cX7_unlike 4 = .ok (.iload_n 1, 1) := by decide +kernel
theorem dX7_unlike_5 : decode cX7_unlike 5 = .ok (.invokevirtual 83, 3) := by decide +kernel
theorem dX7_unlike_8 : decode cX7_unlike 8 = .ok (.ifCond .eq 25, 3) := by decide +kernel
theorem dX7_unlike_11 : decode cX7_unlike 11 = .ok (.aload_n 0, 1) := by decide +kernel
theorem dX7_unlike_12 : decode cX7_unlike 12 = .ok (.getfield 20, 3) := by decide +kernel
theorem dX7_unlike_15 : decode cX7_unlike 15 = .ok (.iload_n 2, 1) := by decide +kernel
theorem dX7_unlike_16 : decode cX7_unlike 16 = .ok (.invokevirtual 83, 3) := by decide +kernel
theorem dX7_unlike_19 : decode cX7_unlike 19 = .ok (.ifCond .eq 14, 3) := by decide +kernel
theorem dX7_unlike_22 : decode cX7_unlike 22 = .ok (.aload_n 0, 1) := by decide +kernel
theorem dX7_unlike_23 : decode cX7_unlike 23 = .ok (.getfield 20, 3) := by decide +kernel
theorem dX7_unlike_26 : decode cX7_unlike 26 = .ok (.iload_n 3, 1) := by decide +kernel
theorem dX7_unlike_27 : decode cX7_unlike 27 = .ok (.invokevirtual 173, 3) := by decide +kernel
theorem dX7_unlike_30 : decode cX7_unlike 30 = .ok (.ifCond .ne 5, 3) := by decide +kernel
theorem dX7_unlike_33 : decode cX7_unlike 33 = .ok (.iconst (-1), 1) := by decide +kernel
theorem dX7_unlike_34 : decode cX7_unlike 34 = .ok (.ireturn, 1) := by decide +kernel
theorem dX7_unlike_35 : decode cX7_unlike 35 = .ok (.aload_n 0, 1) := by decide +kernel
theorem dX7_unlike_36 : decode cX7_unlike 36 = .ok (.getfield 20, 3) := by decide +kernel
theorem dX7_unlike_39 : decode cX7_unlike 39 = .ok (.iload_n 1, 1) := by decide +kernel
theorem dX7_unlike_40 : decode cX7_unlike 40 = .ok (.iload_n 3, 1) := by decide +kernel
theorem dX7_unlike_41 : decode cX7_unlike 41 = .ok (.iload 4, 2) := by decide +kernel
theorem dX7_unlike_43 : decode cX7_unlike 43 = .ok (.invokevirtual 176, 3) := by decide +kernel
theorem dX7_unlike_46 : decode cX7_unlike 46 = .ok (.aload_n 0, 1) := by decide +kernel
theorem dX7_unlike_47 : decode cX7_unlike 47 = .ok (.getfield 20, 3) := by decide +kernel
theorem dX7_unlike_50 : decode cX7_unlike 50 = .ok (.iload_n 2, 1) := by decide +kernel
theorem dX7_unlike_51 : decode cX7_unlike 51 = .ok (.iload_n 3, 1) := by decide +kernel
theorem dX7_unlike_52 : decode cX7_unlike 52 = .ok (.iload 4, 2) := by decide +kernel
theorem dX7_unlike_54 : decode cX7_unlike 54 = .ok (.invokevirtual 176, 3) := by decide +kernel
theorem dX7_unlike_57 : decode cX7_unlike 57 = .ok (.isub, 1) := by decide +kernel
theorem dX7_unlike_58 : decode cX7_unlike 58 = .ok (.invokestatic 180, 3) := by decide +kernel
theorem dX7_unlike_61 : decode cX7_unlike 61 = .ok (.ireturn, 1) := by decide +kernel
set_option maxRecDepth 20000 in
theorem ggX7_seen_X6_hasCell : GoodIn wsX7_seen wsX6_hasCell := goodIn_r _ [7, 8, 94, 95, 96, 97, 98, 99, 100, 101, 102, 103, 104] (by decide +kernel) (by decide +kernel)
set_option maxRecDepth 20000 in
theorem gX7_seen_X6_hasCell : GoodIn wsX7_seen (wsV RX7 83 RX6 yX6_hasCell wsX6_hasCell) := goodIn_app (goodIn_of _ (by decide +kernel)) ggX7_seen_X6_hasCell
set_option maxRecDepth 20000 in
theorem ggX7_seen_X2_takeAsItIs : GoodIn wsX7_seen wsX2_takeAsItIs := goodIn_r _ [13, 14, 15, 16, 17, 18, 19, 6, 20, 21, 22, 23, 24, 25, 26, 27, 28, 29, 30, 31, 32, 33, 34, 35, 36, 37, 38, 39, 40, 41, 42, 43, 44, 45, 46, 47, 48, 49, 50, 51, 52, 53, 54, 12, 55, 56, 105, 106, 107, 94, 95, 96, 97, 98, 99, 100, 101, 102, 103, 104, 108, 109, 110, 111, 112, 113, 114] (by decide +kernel) (by decide +kernel)
set_option maxRecDepth 20000 in
theorem gX7_seen_X2_takeAsItIs : GoodIn wsX7_seen (wsV RX7 185 RX2 yX2_takeAsItIs wsX2_takeAsItIs) := goodIn_app (goodIn_of _ (by decide +kernel)) ggX7_seen_X2_takeAsItIs
set_option maxRecDepth 20000 in
theorem ggX7_seen_X2_countSeen : GoodIn wsX7_seen wsX2_countSeen := goodIn_r _ [60, 14, 15, 61, 62, 63, 12, 64, 65, 66, 67, 68, 6, 69, 70, 71, 72, 73, 74, 56, 16, 75, 76, 45, 77, 78, 17, 18, 19, 20, 21, 79, 80, 81, 82, 105, 106, 107, 94, 95, 96, 97, 98, 99, 100, 101, 102, 103, 104] (by decide +kernel) (by decide +kernel)
set_option maxRecDepth 20000 in
theorem gX7_seen_X2_countSeen : GoodIn wsX7_seen (wsV RX7 188 RX2 yX2_countSeen wsX2_countSeen) := goodIn_app (goodIn_of _ (by decide +kernel)) ggX7_seen_X2_countSeen
set_option maxRecDepth 20000 in
theorem ggX7_seen_X2_countSeenOf : GoodIn wsX7_seen wsX2_countSeenOf := goodIn_r _ [86, 14, 65, 61, 62, 63, 12, 64, 66, 67, 68, 6, 69, 70, 71, 72, 73, 74, 56, 16, 75, 76, 45, 77, 78, 17, 18, 19, 20, 21, 79, 80, 81, 82, 15, 105, 106, 107, 94, 95, 96, 97, 98, 99, 100, 101, 102, 103, 104] (by decide +kernel) (by decide +kernel)
set_option maxRecDepth 20000 in
theorem gX7_seen_X2_countSeenOf : GoodIn wsX7_seen (wsV RX7 192 RX2 yX2_countSeenOf wsX2_countSeenOf) := goodIn_app (goodIn_of _ (by decide +kernel)) ggX7_seen_X2_countSeenOf
theorem dX7_seen_0 : decode cX7_seen 0 = .ok (.iload_n 1, 1) := by decide +kernel
theorem dX7_seen_1 : decode cX7_seen 1 = .ok (.iconst (-1), 1) := by decide +kernel
theorem dX7_seen_2 : decode cX7_seen 2 = .ok (.if_icmp .eq 16, 3) := by decide +kernel
theorem dX7_seen_5 : decode cX7_seen 5 = .ok (.aload_n 0, 1) := by decide +kernel
theorem dX7_seen_6 : decode cX7_seen 6 = .ok (.getfield 20, 3) := by decide +kernel
theorem dX7_seen_9 : decode cX7_seen 9 = .ok (.iload_n 1, 1) := by decide +kernel
theorem dX7_seen_10 : decode cX7_seen 10 = .ok (.invokevirtual 83, 3) := by decide +kernel
theorem dX7_seen_13 : decode cX7_seen 13 = .ok (.ifCond .ne 5, 3) := by decide +kernel
theorem dX7_seen_16 : decode cX7_seen 16 = .ok (.iconst (-1), 1) := by decide +kernel
theorem dX7_seen_17 : decode cX7_seen 17 = .ok (.ireturn, 1) := by decide +kernel
theorem dX7_seen_18 : decode cX7_seen 18 = .ok (.aload_n 0, 1) := by decide +kernel
theorem dX7_seen_19 : decode cX7_seen 19 = .ok (.getfield 29, 3) := by decide +kernel
theorem dX7_seen_22 : decode cX7_seen 22 = .ok (.invokevirtual 185, 3) := by decide +kernel
theorem dX7_seen_25 : decode cX7_seen 25 = .ok (.iload_n 1, 1) := by decide +kernel
theorem dX7_seen_26 : decode cX7_seen 26 = .ok (.iconst (-1), 1) := by decide +kernel
theorem dX7_seen_27 : decode cX7_seen 27 = .ok (.if_icmp .ne 13, 3) := by decide +kernel
theorem dX7_seen_30 : decode cX7_seen 30 = .ok (.aload_n 0, 1) := by decide +kernel
theorem dX7_seen_31 : decode cX7_seen 31 = .ok (.getfield 29, 3) := by decide +kernel
theorem dX7_seen_34 : decode cX7_seen 34 = .ok (.invokevirtual 188, 3) := by decide +kernel
theorem dX7_seen_37 : decode cX7_seen 37 = .ok (.goto 11, 3) := by decide +kernel
theorem dX7_seen_40 : decode cX7_seen 40 = .ok (.aload_n 0, 1) := by decide +kernel
theorem dX7_seen_41 : decode cX7_seen 41 = .ok (.getfield 29, 3) := by decide +kernel
theorem dX7_seen_44 : decode cX7_seen 44 = .ok (.iload_n 1, 1) := by decide +kernel
theorem dX7_seen_45 : decode cX7_seen 45 = .ok (.invokevirtual 192, 3) := by decide +kernel
theorem dX7_seen_48 : decode cX7_seen 48 = .ok (.ireturn, 1) := by decide +kernel
set_option maxRecDepth 20000 in
theorem ggX7_mix_X3_pour : GoodIn wsX7_mix wsX3_pour := goodIn_r _ [10, 11, 73, 74, 75, 76, 77, 78, 79] (by decide +kernel) (by decide +kernel)
set_option maxRecDepth 20000 in
theorem gX7_mix_X3_pour : GoodIn wsX7_mix (wsV RX7 195 RX3 yX3_pour wsX3_pour) := goodIn_app (goodIn_of _ (by decide +kernel)) ggX7_mix_X3_pour
set_option maxRecDepth 20000 in
theorem ggX7_mix_X3_isMix : GoodIn wsX7_mix wsX3_isMix := goodIn_r _ [15, 11, 16, 17, 18, 19, 20, 21, 22, 23, 24, 25, 73, 74, 75, 76, 77, 78, 79, 60, 61, 62, 63, 64, 65, 66, 67, 68, 69, 70] (by decide +kernel) (by decide +kernel)
set_option maxRecDepth 20000 in
theorem gX7_mix_X3_isMix : GoodIn wsX7_mix (wsV RX7 199 RX3 yX3_isMix wsX3_isMix) := goodIn_app (goodIn_of _ (by decide +kernel)) ggX7_mix_X3_isMix
set_option maxRecDepth 20000 in
theorem ggX7_mix_X3_stir : GoodIn wsX7_mix wsX3_stir := goodIn_r _ [29, 30, 31, 32, 33, 11, 16, 34, 35, 36, 37, 38, 39, 40, 9, 41, 42, 43, 44, 45, 73, 74, 75, 76, 77, 78, 79, 60, 61, 62, 63, 64, 65, 66, 67, 68, 69, 70, 71, 72] (by decide +kernel) (by decide +kernel)
set_option maxRecDepth 20000 in
theorem gX7_mix_X3_stir : GoodIn wsX7_mix (wsV RX7 202 RX3 yX3_stir wsX3_stir) := goodIn_app (goodIn_of _ (by decide +kernel)) ggX7_mix_X3_stir
set_option maxRecDepth 20000 in
theorem ggX7_mix_X6_addCoat : GoodIn wsX7_mix wsX6_addCoat := goodIn_r _ [49, 50, 25, 51, 52, 60, 61, 62, 63, 64, 65, 66, 67, 68, 69, 70, 71, 72] (by decide +kernel) (by decide +kernel)
set_option maxRecDepth 20000 in
theorem gX7_mix_X6_addCoat : GoodIn wsX7_mix (wsV RX7 139 RX6 yX6_addCoat wsX6_addCoat) := goodIn_app (goodIn_of _ (by decide +kernel)) ggX7_mix_X6_addCoat
theorem dX7_mix_0 : decode cX7_mix 0 = .ok (.aload_n 0, 1) := by decide +kernel
theorem dX7_mix_1 : decode cX7_mix 1 = .ok (.getfield 36, 3) := by decide +kernel
theorem dX7_mix_4 : decode cX7_mix 4 = .ok (.iload_n 1, 1) := by decide +kernel
theorem dX7_mix_5 : decode cX7_mix 5 = .ok (.iload_n 2, 1) := by decide +kernel
theorem dX7_mix_6 : decode cX7_mix 6 = .ok (.iload_n 3, 1) := by decide +kernel
theorem dX7_mix_7 : decode cX7_mix 7 = .ok (.iload 4, 2) := by decide +kernel
theorem dX7_mix_9 : decode cX7_mix 9 = .ok (.invokevirtual 195, 3) := by decide +kernel
theorem dX7_mix_12 : decode cX7_mix 12 = .ok (.aload_n 0, 1) := by decide +kernel
theorem dX7_mix_13 : decode cX7_mix 13 = .ok (.getfield 36, 3) := by decide +kernel
theorem dX7_mix_16 : decode cX7_mix 16 = .ok (.invokevirtual 199, 3) := by decide +kernel
theorem dX7_mix_19 : decode cX7_mix 19 = .ok (.ifCond .ne 6, 3) := by decide +kernel
theorem dX7_mix_22 : decode cX7_mix 22 = .ok (.bipush (-2), 2) := by decide +kernel
theorem dX7_mix_24 : decode cX7_mix 24 = .ok (.ireturn, 1) := by decide +kernel
theorem dX7_mix_25 : decode cX7_mix 25 = .ok (.aload_n 0, 1) := by decide +kernel
theorem dX7_mix_26 : decode cX7_mix 26 = .ok (.getfield 20, 3) := by decide +kernel
theorem dX7_mix_29 : decode cX7_mix 29 = .ok (.getfield 136, 3) := by decide +kernel
theorem dX7_mix_32 : decode cX7_mix 32 = .ok (.bipush 6, 2) := by decide +kernel
theorem dX7_mix_34 : decode cX7_mix 34 = .ok (.if_icmp .lt 6, 3) := by decide +kernel
theorem dX7_mix_37 : decode cX7_mix 37 = .ok (.bipush (-4), 2) := by decide +kernel
theorem dX7_mix_39 : decode cX7_mix 39 = .ok (.ireturn, 1) := by decide +kernel
theorem dX7_mix_40 : decode cX7_mix 40 = .ok (.aload_n 0, 1) := by decide +kernel
theorem dX7_mix_41 : decode cX7_mix 41 = .ok (.getfield 36, 3) := by decide +kernel
theorem dX7_mix_44 : decode cX7_mix 44 = .ok (.invokevirtual 202, 3) := by decide +kernel
theorem dX7_mix_47 : decode cX7_mix 47 = .ok (.astore 5, 2) := by decide +kernel
theorem dX7_mix_49 : decode cX7_mix 49 = .ok (.aload_n 0, 1) := by decide +kernel
theorem dX7_mix_50 : decode cX7_mix 50 = .ok (.getfield 20, 3) := by decide +kernel
theorem dX7_mix_53 : decode cX7_mix 53 = .ok (.aload 5, 2) := by decide +kernel
theorem dX7_mix_55 : decode cX7_mix 55 = .ok (.getfield 150, 3) := by decide +kernel
theorem dX7_mix_58 : decode cX7_mix 58 = .ok (.aload 5, 2) := by decide +kernel
theorem dX7_mix_60 : decode cX7_mix 60 = .ok (.getfield 155, 3) := by decide +kernel
theorem dX7_mix_63 : decode cX7_mix 63 = .ok (.iconst 0, 1) := by decide +kernel
theorem dX7_mix_64 : decode cX7_mix 64 = .ok (.iaload, 1) := by decide +kernel
theorem dX7_mix_65 : decode cX7_mix 65 = .ok (.aload 5, 2) := by decide +kernel
theorem dX7_mix_67 : decode cX7_mix 67 = .ok (.getfield 155, 3) := by decide +kernel
theorem dX7_mix_70 : decode cX7_mix 70 = .ok (.iconst 1, 1) := by decide +kernel
theorem dX7_mix_71 : decode cX7_mix 71 = .ok (.iaload, 1) := by decide +kernel
theorem dX7_mix_72 : decode cX7_mix 72 = .ok (.aload 5, 2) := by decide +kernel
theorem dX7_mix_74 : decode cX7_mix 74 = .ok (.getfield 155, 3) := by decide +kernel
theorem dX7_mix_77 : decode cX7_mix 77 = .ok (.iconst 2, 1) := by decide +kernel
theorem dX7_mix_78 : decode cX7_mix 78 = .ok (.iaload, 1) := by decide +kernel
theorem dX7_mix_79 : decode cX7_mix 79 = .ok (.invokevirtual 139, 3) := by decide +kernel
theorem dX7_mix_82 : decode cX7_mix 82 = .ok (.ireturn, 1) := by decide +kernel
set_option maxRecDepth 20000 in
theorem ggX7_best_X6_hasCell : GoodIn wsX7_best wsX6_hasCell := goodIn_r _ [9, 10, 122, 123, 124, 125, 126, 127, 128, 129, 130, 131, 132] (by decide +kernel) (by decide +kernel)
set_option maxRecDepth 20000 in
theorem gX7_best_X6_hasCell : GoodIn wsX7_best (wsV RX7 83 RX6 yX6_hasCell wsX6_hasCell) := goodIn_app (goodIn_of _ (by decide +kernel)) ggX7_best_X6_hasCell
set_option maxRecDepth 20000 in
theorem ggX7_best_X7_isWithin : GoodIn wsX7_best wsX7_isWithin := goodIn_r _ [14] (by decide +kernel) (by decide +kernel)
set_option maxRecDepth 20000 in
theorem gX7_best_X7_isWithin : GoodIn wsX7_best (va_wsS RX7 108 yX7_isWithin wsX7_isWithin) := goodIn_app (goodIn_of _ (by decide +kernel)) ggX7_best_X7_isWithin
set_option maxRecDepth 20000 in
theorem ggX7_best_X3_searchFor : GoodIn wsX7_best wsX3_searchFor := goodIn_r _ [19, 20, 21, 22, 23, 24, 25, 26, 27, 8, 28, 29, 30, 31, 32, 33, 34, 35, 36, 37, 38, 39, 40, 41, 42, 43, 44, 45, 46, 47, 48, 49, 50, 51, 52, 53, 54, 55, 56, 57, 58, 59, 60, 61, 62, 18, 63, 64, 65, 66, 67, 68, 69, 70, 71, 72, 73, 74, 75, 76, 77, 12, 13, 14, 78, 79, 80, 81, 82, 83, 84, 85, 86, 87, 88, 89, 90, 91, 92, 93, 94, 95, 96, 97, 98, 99, 100, 101, 102, 103, 104, 105, 106, 107, 115, 116, 117, 118, 119, 120, 121, 122, 123, 124, 125, 126, 127, 128, 129, 130, 131, 132, 133, 134, 135, 136, 137, 138, 139] (by decide +kernel) (by decide +kernel)
set_option maxRecDepth 20000 in
theorem gX7_best_X3_searchFor : GoodIn wsX7_best (wsV RX7 206 RX3 yX3_searchFor wsX3_searchFor) := goodIn_app (goodIn_of _ (by decide +kernel)) ggX7_best_X3_searchFor
theorem dX7_best_0 : decode cX7_best 0 = .ok (.aload_n 0, 1) := by decide +kernel
theorem dX7_best_1 : decode cX7_best 1 = .ok (.getfield 20, 3) := by decide +kernel
theorem dX7_best_4 : decode cX7_best 4 = .ok (.iload_n 1, 1) := by decide +kernel
theorem dX7_best_5 : decode cX7_best 5 = .ok (.invokevirtual 83, 3) := by decide +kernel
theorem dX7_best_8 : decode cX7_best 8 = .ok (.ifCond .ne 5, 3) := by decide +kernel
theorem dX7_best_11 : decode cX7_best 11 = .ok (.iconst (-1), 1) := by decide +kernel
theorem dX7_best_12 : decode cX7_best 12 = .ok (.ireturn, 1) := by decide +kernel
theorem dX7_best_13 : decode cX7_best 13 = .ok (.iload_n 2, 1) := by decide +kernel
theorem dX7_best_14 : decode cX7_best 14 = .ok (.iconst (-1), 1) := by decide +kernel
theorem dX7_best_15 : decode cX7_best 15 = .ok (.iconst 3, 1) := by decide +kernel
theorem dX7_best_16 : decode cX7_best 16 = .ok (.invokestatic 108, 3) := by decide +kernel
theorem dX7_best_19 : decode cX7_best 19 = .ok (.ifCond .ne 6, 3) := by decide +kernel
theorem dX7_best_22 : decode cX7_best 22 = .ok (.bipush (-2), 2) := by decide +kernel
theorem dX7_best_24 : decode cX7_best 24 = .ok (.ireturn, 1) := by decide +kernel
theorem dX7_best_25 : decode cX7_best 25 = .ok (.aload_n 0, 1) := by decide +kernel
theorem dX7_best_26 : decode cX7_best 26 = .ok (.getfield 36, 3) := by decide +kernel
theorem dX7_best_29 : decode cX7_best 29 = .ok (.iload_n 1, 1) := by decide +kernel
theorem dX7_best_30 : decode cX7_best 30 = .ok (.invokevirtual 206, 3) := by decide +kernel
theorem dX7_best_33 : decode cX7_best 33 = .ok (.iload_n 2, 1) := by decide +kernel
theorem dX7_best_34 : decode cX7_best 34 = .ok (.ifCond .ge 13, 3) := by decide +kernel
theorem dX7_best_37 : decode cX7_best 37 = .ok (.aload_n 0, 1) := by decide +kernel
theorem dX7_best_38 : decode cX7_best 38 = .ok (.getfield 36, 3) := by decide +kernel
theorem dX7_best_41 : decode cX7_best 41 = .ok (.getfield 209, 3) := by decide +kernel
theorem dX7_best_44 : decode cX7_best 44 = .ok (.goto 12, 3) := by decide +kernel
theorem dX7_best_47 : decode cX7_best 47 = .ok (.aload_n 0, 1) := by decide +kernel
theorem dX7_best_48 : decode cX7_best 48 = .ok (.getfield 36, 3) := by decide +kernel
theorem dX7_best_51 : decode cX7_best 51 = .ok (.getfield 212, 3) := by decide +kernel
theorem dX7_best_54 : decode cX7_best 54 = .ok (.iload_n 2, 1) := by decide +kernel
theorem dX7_best_55 : decode cX7_best 55 = .ok (.iaload, 1) := by decide +kernel
theorem dX7_best_56 : decode cX7_best 56 = .ok (.ireturn, 1) := by decide +kernel
set_option maxRecDepth 20000 in
theorem ggX7_traitors_X6_hasLight : GoodIn wsX7_traitors wsX6_hasLight := goodIn_r _ [7, 8, 50, 51, 52, 53, 54, 55, 56, 57, 58, 59, 60] (by decide +kernel) (by decide +kernel)
set_option maxRecDepth 20000 in
theorem gX7_traitors_X6_hasLight : GoodIn wsX7_traitors (wsV RX7 173 RX6 yX6_hasLight wsX6_hasLight) := goodIn_app (goodIn_of _ (by decide +kernel)) ggX7_traitors_X6_hasLight
set_option maxRecDepth 20000 in
theorem ggX7_traitors_X6_areTraitors : GoodIn wsX7_traitors wsX6_areTraitors := goodIn_r _ [12, 13, 14, 15, 16, 6, 17, 18, 19, 20, 21, 22, 23, 24, 25, 26, 27, 28, 29, 30, 31, 32, 33, 34, 35, 36, 37, 38, 39, 40, 41, 42, 50, 51, 52, 53, 54, 55, 56, 57, 58, 59, 60, 61, 62] (by decide +kernel) (by decide +kernel)
set_option maxRecDepth 20000 in
theorem gX7_traitors_X6_areTraitors : GoodIn wsX7_traitors (wsV RX7 215 RX6 yX6_areTraitors wsX6_areTraitors) := goodIn_app (goodIn_of _ (by decide +kernel)) ggX7_traitors_X6_areTraitors
theorem dX7_traitors_0 : decode cX7_traitors 0 = .ok (.aload_n 0, 1) := by decide +kernel
theorem dX7_traitors_1 : decode cX7_traitors 1 = .ok (.getfield 20, 3) := by decide +kernel
theorem dX7_traitors_4 : decode cX7_traitors 4 = .ok (.iload_n 1, 1) := by decide +kernel
theorem dX7_traitors_5 : decode cX7_traitors 5 = .ok (.invokevirtual 173, 3) := by decide +kernel
theorem dX7_traitors_8 : decode cX7_traitors 8 = .ok (.ifCond .eq 19, 3) := by decide +kernel
theorem dX7_traitors_11 : decode cX7_traitors 11 = .ok (.aload_n 0, 1) := by decide +kernel
theorem dX7_traitors_12 : decode cX7_traitors 12 = .ok (.getfield 20, 3) := by decide +kernel
theorem dX7_traitors_15 : decode cX7_traitors 15 = .ok (.iload_n 2, 1) := by decide +kernel
theorem dX7_traitors_16 : decode cX7_traitors 16 = .ok (.invokevirtual 173, 3) := by decide +kernel
theorem dX7_traitors_19 : decode cX7_traitors 19 = .ok (.ifCond .eq 8, 3) := by decide +kernel
theorem dX7_traitors_22 : decode cX7_traitors 22 = .ok (.iload_n 3, 1) := by decide +kernel
theorem dX7_traitors_23 : decode cX7_traitors 23 = .ok (.iconst (-1), 1) := by decide +kernel
theorem dX7_traitors_24 : decode cX7_traitors 24 = .ok (.if_icmp .ge 5, 3) := by decide +kernel
theorem dX7_traitors_27 : decode cX7_traitors 27 = .ok (.iconst (-1), 1) := by decide +kernel
theorem dX7_traitors_28 : decode cX7_traitors 28 = .ok (.ireturn, 1) := by decide +kernel
theorem dX7_traitors_29 : decode cX7_traitors 29 = .ok (.iconst 0, 1) := by decide +kernel
theorem dX7_traitors_30 : decode cX7_traitors 30 = .ok (.istore 4, 2) := by decide +kernel
theorem dX7_traitors_32 : decode cX7_traitors 32 = .ok (.iconst 0, 1) := by decide +kernel
theorem dX7_traitors_33 : decode cX7_traitors 33 = .ok (.istore 5, 2) := by decide +kernel
theorem dX7_traitors_35 : decode cX7_traitors 35 = .ok (.iload 5, 2) := by decide +kernel
theorem dX7_traitors_37 : decode cX7_traitors 37 = .ok (.aload_n 0, 1) := by decide +kernel
theorem dX7_traitors_38 : decode cX7_traitors 38 = .ok (.getfield 20, 3) := by decide +kernel
theorem dX7_traitors_41 : decode cX7_traitors 41 = .ok (.getfield 136, 3) := by decide +kernel
theorem dX7_traitors_44 : decode cX7_traitors 44 = .ok (.if_icmp .ge 67, 3) := by decide +kernel
theorem dX7_traitors_47 : decode cX7_traitors 47 = .ok (.iload 5, 2) := by decide +kernel
theorem dX7_traitors_49 : decode cX7_traitors 49 = .ok (.iconst 1, 1) := by decide +kernel
theorem dX7_traitors_50 : decode cX7_traitors 50 = .ok (.iadd, 1) := by decide +kernel
theorem dX7_traitors_51 : decode cX7_traitors 51 = .ok (.istore 6, 2) := by decide +kernel
theorem dX7_traitors_53 : decode cX7_traitors 53 = .ok (.iload 6, 2) := by decide +kernel
theorem dX7_traitors_55 : decode cX7_traitors 55 = .ok (.aload_n 0, 1) := by decide +kernel
theorem dX7_traitors_56 : decode cX7_traitors 56 = .ok (.getfield 20, 3) := by decide +kernel
theorem dX7_traitors_59 : decode cX7_traitors 59 = .ok (.getfield 136, 3) := by decide +kernel
theorem dX7_traitors_62 : decode cX7_traitors 62 = .ok (.if_icmp .ge 43, 3) := by decide +kernel
theorem dX7_traitors_65 : decode cX7_traitors 65 = .ok (.aload_n 0, 1) := by decide +kernel
theorem dX7_traitors_66 : decode cX7_traitors 66 = .ok (.getfield 20, 3) := by decide +kernel
theorem dX7_traitors_69 : decode cX7_traitors 69 = .ok (.iload 5, 2) := by decide +kernel
theorem dX7_traitors_71 : decode cX7_traitors 71 = .ok (.iload 6, 2) := by decide +kernel
theorem dX7_traitors_73 : decode cX7_traitors 73 = .ok (.iload_n 1, 1) := by decide +kernel
theorem dX7_traitors_74 : decode cX7_traitors 74 = .ok (.iload_n 2, 1) := by decide +kernel
theorem dX7_traitors_75 : decode cX7_traitors 75 = .ok (.invokevirtual 215, 3) := by decide +kernel
theorem dX7_traitors_78 : decode cX7_traitors 78 = .ok (.ifCond .eq 21, 3) := by decide +kernel
theorem dX7_traitors_81 : decode cX7_traitors 81 = .ok (.iload 4, 2) := by decide +kernel
theorem dX7_traitors_83 : decode cX7_traitors 83 = .ok (.iload_n 3, 1) := by decide +kernel
theorem dX7_traitors_84 : decode cX7_traitors 84 = .ok (.if_icmp .ne 12, 3) := by decide +kernel
theorem dX7_traitors_87 : decode cX7_traitors 87 = .ok (.bipush 10, 2) := by decide +kernel
theorem dX7_traitors_89 : decode cX7_traitors 89 = .ok (.iload 5, 2) := by decide +kernel
theorem dX7_traitors_91 : decode cX7_traitors 91 = .ok (.imul, 1) := by decide +kernel
theorem dX7_traitors_92 : decode cX7_traitors 92 = .ok (.iload 6, 2) := by decide +kernel
theorem dX7_traitors_94 : decode cX7_traitors 94 = .ok (.iadd, 1) := by decide +kernel
theorem dX7_traitors_95 : decode cX7_traitors 95 = .ok (.ireturn, 1) := by decide +kernel
theorem dX7_traitors_96 : decode cX7_traitors 96 = .ok (.iinc 4 1, 3) := by decide +kernel
theorem dX7_traitors_99 : decode cX7_traitors 99 = .ok (.iinc 6 1, 3) := by decide +kernel
theorem dX7_traitors_102 : decode cX7_traitors 102 = .ok (.goto (-49), 3) := by decide +kernel
theorem dX7_traitors_105 : decode cX7_traitors 105 = .ok (.iinc 5 1, 3) := by decide +kernel
theorem dX7_traitors_108 : decode cX7_traitors 108 = .ok (.goto (-73), 3) := by decide +kernel
theorem dX7_traitors_111 : decode cX7_traitors 111 = .ok (.iload_n 3, 1) := by decide +kernel
theorem dX7_traitors_112 : decode cX7_traitors 112 = .ok (.iconst (-1), 1) := by decide +kernel
theorem dX7_traitors_113 : decode cX7_traitors 113 = .ok (.if_icmp .ne 8, 3) := by decide +kernel
theorem dX7_traitors_116 : decode cX7_traitors 116 = .ok (.iload 4, 2) := by decide +kernel
theorem dX7_traitors_118 : decode cX7_traitors 118 = .ok (.goto 5, 3) := by decide +kernel
theorem dX7_traitors_121 : decode cX7_traitors 121 = .ok (.bipush (-9), 2) := by decide +kernel
theorem dX7_traitors_123 : decode cX7_traitors 123 = .ok (.ireturn, 1) := by decide +kernel
set_option maxRecDepth 20000 in
theorem ggX7_patch_X6_hasCell : GoodIn wsX7_patch wsX6_hasCell := goodIn_r _ [10, 11, 139, 140, 141, 142, 143, 144, 145, 146, 147, 148, 149] (by decide +kernel) (by decide +kernel)
set_option maxRecDepth 20000 in
theorem gX7_patch_X6_hasCell : GoodIn wsX7_patch (wsV RX7 83 RX6 yX6_hasCell wsX6_hasCell) := goodIn_app (goodIn_of _ (by decide +kernel)) ggX7_patch_X6_hasCell
set_option maxRecDepth 20000 in
theorem ggX7_patch_X6_hasCoat : GoodIn wsX7_patch wsX6_hasCoat := goodIn_r _ [15, 16, 139, 140, 141, 142, 143, 144, 145, 146, 147, 148, 149] (by decide +kernel) (by decide +kernel)
set_option maxRecDepth 20000 in
theorem gX7_patch_X6_hasCoat : GoodIn wsX7_patch (wsV RX7 143 RX6 yX6_hasCoat wsX6_hasCoat) := goodIn_app (goodIn_of _ (by decide +kernel)) ggX7_patch_X6_hasCoat
set_option maxRecDepth 20000 in
theorem ggX7_patch_X7_isWithin : GoodIn wsX7_patch wsX7_isWithin := goodIn_r _ [20] (by decide +kernel) (by decide +kernel)
set_option maxRecDepth 20000 in
theorem gX7_patch_X7_isWithin : GoodIn wsX7_patch (va_wsS RX7 108 yX7_isWithin wsX7_isWithin) := goodIn_app (goodIn_of _ (by decide +kernel)) ggX7_patch_X7_isWithin
set_option maxRecDepth 20000 in
theorem ggX7_patch_X4_searchAround : GoodIn wsX7_patch wsX4_searchAround := goodIn_r _ [25, 26, 27, 28, 29, 30, 31, 32, 33, 34, 35, 36, 37, 38, 39, 40, 41, 9, 42, 43, 44, 45, 46, 47, 48, 49, 50, 51, 52, 53, 54, 55, 56, 57, 58, 59, 60, 61, 62, 63, 64, 65, 66, 67, 68, 69, 70, 71, 72, 73, 74, 75, 76, 77, 78, 79, 80, 81, 82, 83, 84, 85, 86, 87, 88, 89, 90, 91, 92, 93, 94, 95, 96, 24, 97, 98, 99, 100, 101, 102, 103, 104, 105, 106, 107, 108, 109, 110, 111, 112, 113, 114, 115, 116, 117, 118, 119, 120, 121, 122, 123, 124, 125, 126, 134, 135, 136, 137, 138, 139, 140, 141, 142, 143, 144, 145, 146, 147, 148, 149, 150, 151, 152, 153, 154, 155, 156, 157, 158, 159] (by decide +kernel) (by decide +kernel)
set_option maxRecDepth 20000 in
theorem gX7_patch_X4_searchAround : GoodIn wsX7_patch (wsV RX7 218 RX4 yX4_searchAround wsX4_searchAround) := goodIn_app (goodIn_of _ (by decide +kernel)) ggX7_patch_X4_searchAround
theorem dX7_patch_0 : decode cX7_patch 0 = .ok (.aload_n 0, 1) := by decide +kernel
theorem dX7_patch_1 : decode cX7_patch 1 = .ok (.getfield 20, 3) := by decide +kernel
theorem dX7_patch_4 : decode cX7_patch 4 = .ok (.iload_n 1, 1) := by decide +kernel
theorem dX7_patch_5 : decode cX7_patch 5 = .ok (.invokevirtual 83, 3) := by decide +kernel
theorem dX7_patch_8 : decode cX7_patch 8 = .ok (.ifCond .eq 14, 3) := by decide +kernel
theorem dX7_patch_11 : decode cX7_patch 11 = .ok (.aload_n 0, 1) := by decide +kernel
theorem dX7_patch_12 : decode cX7_patch 12 = .ok (.getfield 20, 3) := by decide +kernel
theorem dX7_patch_15 : decode cX7_patch 15 = .ok (.iload_n 2, 1) := by decide +kernel
theorem dX7_patch_16 : decode cX7_patch 16 = .ok (.invokevirtual 143, 3) := by decide +kernel
theorem dX7_patch_19 : decode cX7_patch 19 = .ok (.ifCond .ne 5, 3) := by decide +kernel
theorem dX7_patch_22 : decode cX7_patch 22 = .ok (.iconst (-1), 1) := by decide +kernel
theorem dX7_patch_23 : decode cX7_patch 23 = .ok (.ireturn, 1) := by decide +kernel
theorem dX7_patch_24 : decode cX7_patch 24 = .ok (.iload_n 3, 1) := by decide +kernel
theorem dX7_patch_25 : decode cX7_patch 25 = .ok (.iconst 0, 1) := by decide +kernel
theorem dX7_patch_26 : decode cX7_patch 26 = .ok (.iconst 2, 1) := by decide +kernel
theorem dX7_patch_27 : decode cX7_patch 27 = .ok (.invokestatic 108, 3) := by decide +kernel
theorem dX7_patch_30 : decode cX7_patch 30 = .ok (.ifCond .ne 6, 3) := by decide +kernel
theorem dX7_patch_33 : decode cX7_patch 33 = .ok (.bipush (-2), 2) := by decide +kernel
theorem dX7_patch_35 : decode cX7_patch 35 = .ok (.ireturn, 1) := by decide +kernel
theorem dX7_patch_36 : decode cX7_patch 36 = .ok (.aload_n 0, 1) := by decide +kernel
theorem dX7_patch_37 : decode cX7_patch 37 = .ok (.getfield 45, 3) := by decide +kernel
theorem dX7_patch_40 : decode cX7_patch 40 = .ok (.iload_n 1, 1) := by decide +kernel
theorem dX7_patch_41 : decode cX7_patch 41 = .ok (.iload_n 2, 1) := by decide +kernel
theorem dX7_patch_42 : decode cX7_patch 42 = .ok (.invokevirtual 218, 3) := by decide +kernel
theorem dX7_patch_45 : decode cX7_patch 45 = .ok (.aload_n 0, 1) := by decide +kernel
theorem dX7_patch_46 : decode cX7_patch 46 = .ok (.getfield 45, 3) := by decide +kernel
theorem dX7_patch_49 : decode cX7_patch 49 = .ok (.getfield 222, 3) := by decide +kernel
theorem dX7_patch_52 : decode cX7_patch 52 = .ok (.ifCond .ne 6, 3) := by decide +kernel
theorem dX7_patch_55 : decode cX7_patch 55 = .ok (.bipush (-9), 2) := by decide +kernel
theorem dX7_patch_57 : decode cX7_patch 57 = .ok (.ireturn, 1) := by decide +kernel
theorem dX7_patch_58 : decode cX7_patch 58 = .ok (.iload_n 3, 1) := by decide +kernel
theorem dX7_patch_59 : decode cX7_patch 59 = .ok (.ifCond .ne 11, 3) := by decide +kernel
theorem dX7_patch_62 : decode cX7_patch 62 = .ok (.aload_n 0, 1) := by decide +kernel
theorem dX7_patch_63 : decode cX7_patch 63 = .ok (.getfield 45, 3) := by decide +kernel
theorem dX7_patch_66 : decode cX7_patch 66 = .ok (.getfield 222, 3) := by decide +kernel
theorem dX7_patch_69 : decode cX7_patch 69 = .ok (.ireturn, 1) := by decide +kernel
theorem dX7_patch_70 : decode cX7_patch 70 = .ok (.iload_n 3, 1) := by decide +kernel
theorem dX7_patch_71 : decode cX7_patch 71 = .ok (.iconst 1, 1) := by decide +kernel
theorem dX7_patch_72 : decode cX7_patch 72 = .ok (.if_icmp .ne 13, 3) := by decide +kernel
theorem dX7_patch_75 : decode cX7_patch 75 = .ok (.aload_n 0, 1) := by decide +kernel
theorem dX7_patch_76 : decode cX7_patch 76 = .ok (.getfield 45, 3) := by decide +kernel
theorem dX7_patch_79 : decode cX7_patch 79 = .ok (.getfield 225, 3) := by decide +kernel
theorem dX7_patch_82 : decode cX7_patch 82 = .ok (.goto 10, 3) := by decide +kernel
theorem dX7_patch_85 : decode cX7_patch 85 = .ok (.aload_n 0, 1) := by decide +kernel
theorem dX7_patch_86 : decode cX7_patch 86 = .ok (.getfield 45, 3) := by decide +kernel
theorem dX7_patch_89 : decode cX7_patch 89 = .ok (.getfield 228, 3) := by decide +kernel
theorem dX7_patch_92 : decode cX7_patch 92 = .ok (.ireturn, 1) := by decide +kernel
set_option maxRecDepth 20000 in
theorem ggX7_leave_X6_hasCell : GoodIn wsX7_leave wsX6_hasCell := goodIn_r _ [7, 8, 105, 106, 107, 108, 109, 110, 111, 112, 113, 114, 115] (by decide +kernel) (by decide +kernel)
set_option maxRecDepth 20000 in
theorem gX7_leave_X6_hasCell : GoodIn wsX7_leave (wsV RX7 83 RX6 yX6_hasCell wsX6_hasCell) := goodIn_app (goodIn_of _ (by decide +kernel)) ggX7_leave_X6_hasCell
set_option maxRecDepth 20000 in
theorem ggX7_leave_X6_hasCoat : GoodIn wsX7_leave wsX6_hasCoat := goodIn_r _ [12, 13, 105, 106, 107, 108, 109, 110, 111, 112, 113, 114, 115] (by decide +kernel) (by decide +kernel)
set_option maxRecDepth 20000 in
theorem gX7_leave_X6_hasCoat : GoodIn wsX7_leave (wsV RX7 143 RX6 yX6_hasCoat wsX6_hasCoat) := goodIn_app (goodIn_of _ (by decide +kernel)) ggX7_leave_X6_hasCoat
set_option maxRecDepth 20000 in
theorem ggX7_leave_X2_takeAsItIs : GoodIn wsX7_leave wsX2_takeAsItIs := goodIn_r _ [18, 19, 20, 21, 22, 23, 24, 6, 25, 26, 27, 28, 29, 30, 31, 32, 33, 34, 35, 36, 37, 38, 39, 40, 41, 42, 43, 44, 45, 46, 47, 48, 49, 50, 51, 52, 53, 54, 55, 56, 57, 58, 59, 17, 60, 61, 116, 117, 118, 105, 106, 107, 108, 109, 110, 111, 112, 113, 114, 115, 119, 120, 121, 122, 123, 124, 125] (by decide +kernel) (by decide +kernel)
set_option maxRecDepth 20000 in
theorem gX7_leave_X2_takeAsItIs : GoodIn wsX7_leave (wsV RX7 185 RX2 yX2_takeAsItIs wsX2_takeAsItIs) := goodIn_app (goodIn_of _ (by decide +kernel)) ggX7_leave_X2_takeAsItIs
set_option maxRecDepth 20000 in
theorem ggX7_leave_X2_countSeen : GoodIn wsX7_leave wsX2_countSeen := goodIn_r _ [65, 19, 20, 66, 67, 68, 17, 69, 70, 71, 72, 73, 6, 74, 75, 76, 77, 78, 79, 61, 21, 80, 81, 50, 82, 83, 22, 23, 24, 25, 26, 84, 85, 86, 87, 116, 117, 118, 105, 106, 107, 108, 109, 110, 111, 112, 113, 114, 115] (by decide +kernel) (by decide +kernel)
set_option maxRecDepth 20000 in
theorem gX7_leave_X2_countSeen : GoodIn wsX7_leave (wsV RX7 188 RX2 yX2_countSeen wsX2_countSeen) := goodIn_app (goodIn_of _ (by decide +kernel)) ggX7_leave_X2_countSeen
set_option maxRecDepth 20000 in
theorem ggX7_leave_X2_takeFresh : GoodIn wsX7_leave wsX2_takeFresh := goodIn_r _ [91, 19, 21, 92, 22, 23, 24, 6, 25, 26, 93, 37, 38, 39, 40, 41, 42, 43, 44, 45, 46, 47, 48, 49, 50, 51, 52, 53, 54, 55, 56, 116, 117, 118, 105, 106, 107, 108, 109, 110, 111, 112, 113, 114, 115, 124, 125] (by decide +kernel) (by decide +kernel)
set_option maxRecDepth 20000 in
theorem gX7_leave_X2_takeFresh : GoodIn wsX7_leave (wsV RX7 231 RX2 yX2_takeFresh wsX2_takeFresh) := goodIn_app (goodIn_of _ (by decide +kernel)) ggX7_leave_X2_takeFresh
set_option maxRecDepth 20000 in
theorem ggX7_leave_X2_paintOne : GoodIn wsX7_leave wsX2_paintOne := goodIn_r _ [97, 61, 116, 117, 118] (by decide +kernel) (by decide +kernel)
set_option maxRecDepth 20000 in
theorem gX7_leave_X2_paintOne : GoodIn wsX7_leave (wsV RX7 232 RX2 yX2_paintOne wsX2_paintOne) := goodIn_app (goodIn_of _ (by decide +kernel)) ggX7_leave_X2_paintOne
theorem dX7_leave_0 : decode cX7_leave 0 = .ok (.aload_n 0, 1) := by decide +kernel
theorem dX7_leave_1 : decode cX7_leave 1 = .ok (.getfield 20, 3) := by decide +kernel
theorem dX7_leave_4 : decode cX7_leave 4 = .ok (.iload_n 1, 1) := by decide +kernel
theorem dX7_leave_5 : decode cX7_leave 5 = .ok (.invokevirtual 83, 3) := by decide +kernel
theorem dX7_leave_8 : decode cX7_leave 8 = .ok (.ifCond .eq 14, 3) := by decide +kernel
theorem dX7_leave_11 : decode cX7_leave 11 = .ok (.aload_n 0, 1) := by decide +kernel
theorem dX7_leave_12 : decode cX7_leave 12 = .ok (.getfield 20, 3) := by decide +kernel
theorem dX7_leave_15 : decode cX7_leave 15 = .ok (.iload_n 2, 1) := by decide +kernel
theorem dX7_leave_16 : decode cX7_leave 16 = .ok (.invokevirtual 143, 3) := by decide +kernel
theorem dX7_leave_19 : decode cX7_leave 19 = .ok (.ifCond .ne 5, 3) := by decide +kernel
theorem dX7_leave_22 : decode cX7_leave 22 = .ok (.iconst (-1), 1) := by decide +kernel
theorem dX7_leave_23 : decode cX7_leave 23 = .ok (.ireturn, 1) := by decide +kernel
theorem dX7_leave_24 : decode cX7_leave 24 = .ok (.aload_n 0, 1) := by decide +kernel
theorem dX7_leave_25 : decode cX7_leave 25 = .ok (.getfield 29, 3) := by decide +kernel
theorem dX7_leave_28 : decode cX7_leave 28 = .ok (.invokevirtual 185, 3) := by decide +kernel
theorem dX7_leave_31 : decode cX7_leave 31 = .ok (.aload_n 0, 1) := by decide +kernel
theorem dX7_leave_32 : decode cX7_leave 32 = .ok (.getfield 29, 3) := by decide +kernel
theorem dX7_leave_35 : decode cX7_leave 35 = .ok (.invokevirtual 188, 3) := by decide +kernel
theorem dX7_leave_38 : decode cX7_leave 38 = .ok (.istore_n 3, 1) := by decide +kernel
theorem dX7_leave_39 : decode cX7_leave 39 = .ok (.aload_n 0, 1) := by decide +kernel
theorem dX7_leave_40 : decode cX7_leave 40 = .ok (.getfield 29, 3) := by decide +kernel
theorem dX7_leave_43 : decode cX7_leave 43 = .ok (.iload_n 2, 1) := by decide +kernel
theorem dX7_leave_44 : decode cX7_leave 44 = .ok (.invokevirtual 231, 3) := by decide +kernel
theorem dX7_leave_47 : decode cX7_leave 47 = .ok (.aload_n 0, 1) := by decide +kernel
theorem dX7_leave_48 : decode cX7_leave 48 = .ok (.getfield 29, 3) := by decide +kernel
theorem dX7_leave_51 : decode cX7_leave 51 = .ok (.iload_n 1, 1) := by decide +kernel
theorem dX7_leave_52 : decode cX7_leave 52 = .ok (.invokevirtual 232, 3) := by decide +kernel
theorem dX7_leave_55 : decode cX7_leave 55 = .ok (.iload_n 3, 1) := by decide +kernel
theorem dX7_leave_56 : decode cX7_leave 56 = .ok (.aload_n 0, 1) := by decide +kernel
theorem dX7_leave_57 : decode cX7_leave 57 = .ok (.getfield 29, 3) := by decide +kernel
theorem dX7_leave_60 : decode cX7_leave 60 = .ok (.invokevirtual 188, 3) := by decide +kernel
theorem dX7_leave_63 : decode cX7_leave 63 = .ok (.isub, 1) := by decide +kernel
theorem dX7_leave_64 : decode cX7_leave 64 = .ok (.bipush 100, 2) := by decide +kernel
theorem dX7_leave_66 : decode cX7_leave 66 = .ok (.iadd, 1) := by decide +kernel
theorem dX7_leave_67 : decode cX7_leave 67 = .ok (.ireturn, 1) := by decide +kernel
set_option maxRecDepth 20000 in
theorem ggX7_on_X6_hasCell : GoodIn wsX7_on wsX6_hasCell := goodIn_r _ [13, 14, 52, 53, 54, 55, 56, 57, 58, 59, 60, 61, 62] (by decide +kernel) (by decide +kernel)
set_option maxRecDepth 20000 in
theorem gX7_on_X6_hasCell : GoodIn wsX7_on (wsV RX7 83 RX6 yX6_hasCell wsX6_hasCell) := goodIn_app (goodIn_of _ (by decide +kernel)) ggX7_on_X6_hasCell
set_option maxRecDepth 20000 in
theorem ggX7_on_X6_hasLight : GoodIn wsX7_on wsX6_hasLight := goodIn_r _ [18, 19, 52, 53, 54, 55, 56, 57, 58, 59, 60, 61, 62] (by decide +kernel) (by decide +kernel)
set_option maxRecDepth 20000 in
theorem gX7_on_X6_hasLight : GoodIn wsX7_on (wsV RX7 173 RX6 yX6_hasLight wsX6_hasLight) := goodIn_app (goodIn_of _ (by decide +kernel)) ggX7_on_X6_hasLight
set_option maxRecDepth 20000 in
theorem ggX7_on_X7_isWithin : GoodIn wsX7_on wsX7_isWithin := goodIn_r _ [23] (by decide +kernel) (by decide +kernel)
set_option maxRecDepth 20000 in
theorem gX7_on_X7_isWithin : GoodIn wsX7_on (va_wsS RX7 108 yX7_isWithin wsX7_isWithin) := goodIn_app (goodIn_of _ (by decide +kernel)) ggX7_on_X7_isWithin
set_option maxRecDepth 20000 in
theorem ggX7_on_X6_lookOfCoat : GoodIn wsX7_on wsX6_lookOfCoat := goodIn_r _ [27, 28, 29, 30, 31, 32, 33, 34, 35, 36, 37, 38, 39, 40, 41, 42, 43, 44, 52, 53, 54, 55, 56, 57, 58, 59, 60, 61, 62, 68, 69] (by decide +kernel) (by decide +kernel)
set_option maxRecDepth 20000 in
theorem gX7_on_X6_lookOfCoat : GoodIn wsX7_on (wsV RX7 235 RX6 yX6_lookOfCoat wsX6_lookOfCoat) := goodIn_app (goodIn_of _ (by decide +kernel)) ggX7_on_X6_lookOfCoat
theorem dX7_on_0 : decode cX7_on 0 = .ok (.aload_n 0, 1) := by decide +kernel
theorem dX7_on_1 : decode cX7_on 1 = .ok (.getfield 20, 3) := by decide +kernel
theorem dX7_on_4 : decode cX7_on 4 = .ok (.iload_n 1, 1) := by decide +kernel
theorem dX7_on_5 : decode cX7_on 5 = .ok (.invokevirtual 83, 3) := by decide +kernel
theorem dX7_on_8 : decode cX7_on 8 = .ok (.ifCond .eq 14, 3) := by decide +kernel
theorem dX7_on_11 : decode cX7_on 11 = .ok (.aload_n 0, 1) := by decide +kernel
theorem dX7_on_12 : decode cX7_on 12 = .ok (.getfield 20, 3) := by decide +kernel
theorem dX7_on_15 : decode cX7_on 15 = .ok (.iload_n 2, 1) := by decide +kernel
theorem dX7_on_16 : decode cX7_on 16 = .ok (.invokevirtual 173, 3) := by decide +kernel
theorem dX7_on_19 : decode cX7_on 19 = .ok (.ifCond .ne 5, 3) := by decide +kernel
theorem dX7_on_22 : decode cX7_on 22 = .ok (.iconst (-1), 1) := by decide +kernel
theorem dX7_on_23 : decode cX7_on 23 = .ok (.ireturn, 1) := by decide +kernel
theorem dX7_on_24 : decode cX7_on 24 = .ok (.iload_n 3, 1) := by decide +kernel
theorem dX7_on_25 : decode cX7_on 25 = .ok (.iconst 0, 1) := by decide +kernel
theorem dX7_on_26 : decode cX7_on 26 = .ok (.bipush 40, 2) := by decide +kernel
theorem dX7_on_28 : decode cX7_on 28 = .ok (.invokestatic 108, 3) := by decide +kernel
theorem dX7_on_31 : decode cX7_on 31 = .ok (.ifCond .ne 6, 3) := by decide +kernel
theorem dX7_on_34 : decode cX7_on 34 = .ok (.bipush (-2), 2) := by decide +kernel
theorem dX7_on_36 : decode cX7_on 36 = .ok (.ireturn, 1) := by decide +kernel
theorem dX7_on_37 : decode cX7_on 37 = .ok (.aload_n 0, 1) := by decide +kernel
theorem dX7_on_38 : decode cX7_on 38 = .ok (.getfield 20, 3) := by decide +kernel
theorem dX7_on_41 : decode cX7_on 41 = .ok (.getfield 86, 3) := by decide +kernel
theorem dX7_on_44 : decode cX7_on 44 = .ok (.iload_n 1, 1) := by decide +kernel
theorem dX7_on_45 : decode cX7_on 45 = .ok (.aaload, 1) := by decide +kernel
theorem dX7_on_46 : decode cX7_on 46 = .ok (.astore 4, 2) := by decide +kernel
theorem dX7_on_48 : decode cX7_on 48 = .ok (.aload 4, 2) := by decide +kernel
theorem dX7_on_50 : decode cX7_on 50 = .ok (.getfield 104, 3) := by decide +kernel
theorem dX7_on_53 : decode cX7_on 53 = .ok (.ifCond .eq 7, 3) := by decide +kernel
theorem dX7_on_56 : decode cX7_on 56 = .ok (.iconst 0, 1) := by decide +kernel
theorem dX7_on_57 : decode cX7_on 57 = .ok (.goto 4, 3) := by decide +kernel
theorem dX7_on_60 : decode cX7_on 60 = .ok (.iload_n 3, 1) := by decide +kernel
theorem dX7_on_61 : decode cX7_on 61 = .ok (.istore 5, 2) := by decide +kernel
theorem dX7_on_63 : decode cX7_on 63 = .ok (.aload_n 0, 1) := by decide +kernel
theorem dX7_on_64 : decode cX7_on 64 = .ok (.getfield 20, 3) := by decide +kernel
theorem dX7_on_67 : decode cX7_on 67 = .ok (.aload_n 0, 1) := by decide +kernel
theorem dX7_on_68 : decode cX7_on 68 = .ok (.getfield 20, 3) := by decide +kernel
theorem dX7_on_71 : decode cX7_on 71 = .ok (.getfield 146, 3) := by decide +kernel
theorem dX7_on_74 : decode cX7_on 74 = .ok (.aload 4, 2) := by decide +kernel
theorem dX7_on_76 : decode cX7_on 76 = .ok (.getfield 95, 3) := by decide +kernel
theorem dX7_on_79 : decode cX7_on 79 = .ok (.aaload, 1) := by decide +kernel
theorem dX7_on_80 : decode cX7_on 80 = .ok (.aload 4, 2) := by decide +kernel
theorem dX7_on_82 : decode cX7_on 82 = .ok (.getfield 98, 3) := by decide +kernel
theorem dX7_on_85 : decode cX7_on 85 = .ok (.iload 5, 2) := by decide +kernel
theorem dX7_on_87 : decode cX7_on 87 = .ok (.aload 4, 2) := by decide +kernel
theorem dX7_on_89 : decode cX7_on 89 = .ok (.getfield 90, 3) := by decide +kernel
theorem dX7_on_92 : decode cX7_on 92 = .ok (.imul, 1) := by decide +kernel
theorem dX7_on_93 : decode cX7_on 93 = .ok (.iadd, 1) := by decide +kernel
theorem dX7_on_94 : decode cX7_on 94 = .ok (.aload 4, 2) := by decide +kernel
theorem dX7_on_96 : decode cX7_on 96 = .ok (.getfield 101, 3) := by decide +kernel
theorem dX7_on_99 : decode cX7_on 99 = .ok (.iload 5, 2) := by decide +kernel
theorem dX7_on_101 : decode cX7_on 101 = .ok (.iadd, 1) := by decide +kernel
theorem dX7_on_102 : decode cX7_on 102 = .ok (.iload_n 2, 1) := by decide +kernel
theorem dX7_on_103 : decode cX7_on 103 = .ok (.iconst 0, 1) := by decide +kernel
theorem dX7_on_104 : decode cX7_on 104 = .ok (.invokevirtual 235, 3) := by decide +kernel
theorem dX7_on_107 : decode cX7_on 107 = .ok (.ireturn, 1) := by decide +kernel
set_option maxRecDepth 20000 in
theorem ggX7_hide_X7_isWithin : GoodIn wsX7_hide wsX7_isWithin := goodIn_r _ [7] (by decide +kernel) (by decide +kernel)
set_option maxRecDepth 20000 in
theorem gX7_hide_X7_isWithin : GoodIn wsX7_hide (va_wsS RX7 108 yX7_isWithin wsX7_isWithin) := goodIn_app (goodIn_of _ (by decide +kernel)) ggX7_hide_X7_isWithin
set_option maxRecDepth 20000 in
theorem ggX7_hide_X6_stands : GoodIn wsX7_hide wsX6_stands := goodIn_r _ [12, 13, 95, 96, 97, 98, 99, 100, 101, 102, 103, 104, 105] (by decide +kernel) (by decide +kernel)
set_option maxRecDepth 20000 in
theorem gX7_hide_X6_stands : GoodIn wsX7_hide (wsV RX7 112 RX6 yX6_stands wsX6_stands) := goodIn_app (goodIn_of _ (by decide +kernel)) ggX7_hide_X6_stands
set_option maxRecDepth 20000 in
theorem ggX7_hide_X2_takeAsItIs : GoodIn wsX7_hide wsX2_takeAsItIs := goodIn_r _ [18, 19, 20, 21, 22, 23, 24, 11, 25, 26, 27, 28, 29, 30, 31, 32, 33, 34, 35, 36, 37, 38, 39, 40, 41, 42, 43, 44, 45, 46, 47, 48, 49, 50, 51, 52, 53, 54, 55, 56, 57, 58, 59, 17, 60, 61, 106, 107, 108, 95, 96, 97, 98, 99, 100, 101, 102, 103, 104, 105, 109, 110, 111, 112, 113, 114, 115] (by decide +kernel) (by decide +kernel)
set_option maxRecDepth 20000 in
theorem gX7_hide_X2_takeAsItIs : GoodIn wsX7_hide (wsV RX7 185 RX2 yX2_takeAsItIs wsX2_takeAsItIs) := goodIn_app (goodIn_of _ (by decide +kernel)) ggX7_hide_X2_takeAsItIs
set_option maxRecDepth 20000 in
theorem ggX7_hide_X2_countSeenOf : GoodIn wsX7_hide wsX2_countSeenOf := goodIn_r _ [65, 19, 66, 67, 68, 69, 17, 70, 71, 72, 73, 11, 74, 75, 76, 77, 78, 79, 61, 21, 80, 81, 50, 82, 83, 22, 23, 24, 25, 26, 84, 85, 86, 87, 20, 106, 107, 108, 95, 96, 97, 98, 99, 100, 101, 102, 103, 104, 105] (by decide +kernel) (by decide +kernel)
set_option maxRecDepth 20000 in
theorem gX7_hide_X2_countSeenOf : GoodIn wsX7_hide (wsV RX7 192 RX2 yX2_countSeenOf wsX2_countSeenOf) := goodIn_app (goodIn_of _ (by decide +kernel)) ggX7_hide_X2_countSeenOf
theorem dX7_hide_0 : decode cX7_hide 0 = .ok (.iload_n 1, 1) := by decide +kernel
theorem dX7_hide_1 : decode cX7_hide 1 = .ok (.iconst 0, 1) := by decide +kernel
theorem dX7_hide_2 : decode cX7_hide 2 = .ok (.iconst 1, 1) := by decide +kernel
theorem dX7_hide_3 : decode cX7_hide 3 = .ok (.invokestatic 108, 3) := by decide +kernel
theorem dX7_hide_6 : decode cX7_hide 6 = .ok (.ifCond .ne 6, 3) := by decide +kernel
theorem dX7_hide_9 : decode cX7_hide 9 = .ok (.bipush (-2), 2) := by decide +kernel
theorem dX7_hide_11 : decode cX7_hide 11 = .ok (.ireturn, 1) := by decide +kernel
theorem dX7_hide_12 : decode cX7_hide 12 = .ok (.aload_n 0, 1) := by decide +kernel
theorem dX7_hide_13 : decode cX7_hide 13 = .ok (.getfield 20, 3) := by decide +kernel
theorem dX7_hide_16 : decode cX7_hide 16 = .ok (.invokevirtual 112, 3) := by decide +kernel
theorem dX7_hide_19 : decode cX7_hide 19 = .ok (.ifCond .ne 6, 3) := by decide +kernel
theorem dX7_hide_22 : decode cX7_hide 22 = .ok (.bipush (-3), 2) := by decide +kernel
theorem dX7_hide_24 : decode cX7_hide 24 = .ok (.ireturn, 1) := by decide +kernel
theorem dX7_hide_25 : decode cX7_hide 25 = .ok (.aload_n 0, 1) := by decide +kernel
theorem dX7_hide_26 : decode cX7_hide 26 = .ok (.getfield 29, 3) := by decide +kernel
theorem dX7_hide_29 : decode cX7_hide 29 = .ok (.invokevirtual 185, 3) := by decide +kernel
theorem dX7_hide_32 : decode cX7_hide 32 = .ok (.iconst 0, 1) := by decide +kernel
theorem dX7_hide_33 : decode cX7_hide 33 = .ok (.istore_n 2, 1) := by decide +kernel
theorem dX7_hide_34 : decode cX7_hide 34 = .ok (.iconst 0, 1) := by decide +kernel
theorem dX7_hide_35 : decode cX7_hide 35 = .ok (.istore_n 3, 1) := by decide +kernel
theorem dX7_hide_36 : decode cX7_hide 36 = .ok (.iconst 0, 1) := by decide +kernel
theorem dX7_hide_37 : decode cX7_hide 37 = .ok (.istore 4, 2) := by decide +kernel
theorem dX7_hide_39 : decode cX7_hide 39 = .ok (.iload 4, 2) := by decide +kernel
theorem dX7_hide_41 : decode cX7_hide 41 = .ok (.aload_n 0, 1) := by decide +kernel
theorem dX7_hide_42 : decode cX7_hide 42 = .ok (.getfield 20, 3) := by decide +kernel
theorem dX7_hide_45 : decode cX7_hide 45 = .ok (.getfield 80, 3) := by decide +kernel
theorem dX7_hide_48 : decode cX7_hide 48 = .ok (.if_icmp .ge 32, 3) := by decide +kernel
theorem dX7_hide_51 : decode cX7_hide 51 = .ok (.aload_n 0, 1) := by decide +kernel
theorem dX7_hide_52 : decode cX7_hide 52 = .ok (.getfield 29, 3) := by decide +kernel
theorem dX7_hide_55 : decode cX7_hide 55 = .ok (.iload 4, 2) := by decide +kernel
theorem dX7_hide_57 : decode cX7_hide 57 = .ok (.invokevirtual 192, 3) := by decide +kernel
theorem dX7_hide_60 : decode cX7_hide 60 = .ok (.istore 5, 2) := by decide +kernel
theorem dX7_hide_62 : decode cX7_hide 62 = .ok (.iload 5, 2) := by decide +kernel
theorem dX7_hide_64 : decode cX7_hide 64 = .ok (.iload_n 3, 1) := by decide +kernel
theorem dX7_hide_65 : decode cX7_hide 65 = .ok (.if_icmp .le 9, 3) := by decide +kernel
theorem dX7_hide_68 : decode cX7_hide 68 = .ok (.iload 4, 2) := by decide +kernel
theorem dX7_hide_70 : decode cX7_hide 70 = .ok (.istore_n 2, 1) := by decide +kernel
theorem dX7_hide_71 : decode cX7_hide 71 = .ok (.iload 5, 2) := by decide +kernel
theorem dX7_hide_73 : decode cX7_hide 73 = .ok (.istore_n 3, 1) := by decide +kernel
theorem dX7_hide_74 : decode cX7_hide 74 = .ok (.iinc 4 1, 3) := by decide +kernel
theorem dX7_hide_77 : decode cX7_hide 77 = .ok (.goto (-38), 3) := by decide +kernel
theorem dX7_hide_80 : decode cX7_hide 80 = .ok (.iload_n 1, 1) := by decide +kernel
theorem dX7_hide_81 : decode cX7_hide 81 = .ok (.ifCond .ne 7, 3) := by decide +kernel
theorem dX7_hide_84 : decode cX7_hide 84 = .ok (.iload_n 2, 1) := by decide +kernel
theorem dX7_hide_85 : decode cX7_hide 85 = .ok (.goto 4, 3) := by decide +kernel
theorem dX7_hide_88 : decode cX7_hide 88 = .ok (.iload_n 3, 1) := by decide +kernel
theorem dX7_hide_89 : decode cX7_hide 89 = .ok (.ireturn, 1) := by decide +kernel
set_option maxRecDepth 20000 in
theorem ggX7_hung_X6_hasCoat : GoodIn wsX7_hung wsX6_hasCoat := goodIn_r _ [9, 10, 70, 71, 72, 73, 74, 75, 76, 77, 78, 79, 80] (by decide +kernel) (by decide +kernel)
set_option maxRecDepth 20000 in
theorem gX7_hung_X6_hasCoat : GoodIn wsX7_hung (wsV RX7 143 RX6 yX6_hasCoat wsX6_hasCoat) := goodIn_app (goodIn_of _ (by decide +kernel)) ggX7_hung_X6_hasCoat
set_option maxRecDepth 20000 in
theorem ggX7_hung_X7_isSheet : GoodIn wsX7_hung wsX7_isSheet := goodIn_r _ [14, 15, 16, 13, 17] (by decide +kernel) (by decide +kernel)
set_option maxRecDepth 20000 in
theorem gX7_hung_X7_isSheet : GoodIn wsX7_hung (va_wsS RX7 54 yX7_isSheet wsX7_isSheet) := goodIn_app (goodIn_of _ (by decide +kernel)) ggX7_hung_X7_isSheet
set_option maxRecDepth 20000 in
theorem ggX7_hung_X7_isWithin : GoodIn wsX7_hung wsX7_isWithin := goodIn_r _ [17] (by decide +kernel) (by decide +kernel)
set_option maxRecDepth 20000 in
theorem gX7_hung_X7_isWithin : GoodIn wsX7_hung (va_wsS RX7 108 yX7_isWithin wsX7_isWithin) := goodIn_app (goodIn_of _ (by decide +kernel)) ggX7_hung_X7_isWithin
set_option maxRecDepth 20000 in
theorem ggX7_hung_X7_isSort : GoodIn wsX7_hung wsX7_isSort := goodIn_r _ [20, 15, 16, 13, 17] (by decide +kernel) (by decide +kernel)
set_option maxRecDepth 20000 in
theorem gX7_hung_X7_isSort : GoodIn wsX7_hung (va_wsS RX7 58 yX7_isSort wsX7_isSort) := goodIn_app (goodIn_of _ (by decide +kernel)) ggX7_hung_X7_isSort
set_option maxRecDepth 20000 in
theorem ggX7_hung_X5_faultOfCells : GoodIn wsX7_hung wsX5_faultOfCells := goodIn_r _ [25, 26, 27, 28, 24, 29, 30, 31, 32, 33, 34, 35, 36, 81, 82, 83, 84] (by decide +kernel) (by decide +kernel)
set_option maxRecDepth 20000 in
theorem gX7_hung_X5_faultOfCells : GoodIn wsX7_hung (wsV RX7 239 RX5 yX5_faultOfCells wsX5_faultOfCells) := goodIn_app (goodIn_of _ (by decide +kernel)) ggX7_hung_X5_faultOfCells
set_option maxRecDepth 20000 in
theorem ggX7_hung_X7_failed : GoodIn wsX7_hung wsX7_failed := goodIn_r _ [40, 1, 63, 64, 65, 66, 67, 68, 69] (by decide +kernel) (by decide +kernel)
set_option maxRecDepth 20000 in
theorem gX7_hung_X7_failed : GoodIn wsX7_hung (wsV RX7 69 RX7 yX7_failed wsX7_failed) := goodIn_app (goodIn_of _ (by decide +kernel)) ggX7_hung_X7_failed
set_option maxRecDepth 20000 in
theorem ggX7_hung_X7_isAsTold : GoodIn wsX7_hung wsX7_isAsTold := goodIn_r _ [44, 3, 45, 2, 46, 47, 48, 49, 50, 51, 52, 53, 54, 55, 56, 57, 58, 59, 60, 61, 62, 63, 64, 65, 66, 67, 68, 69, 81, 82, 83, 84, 70, 71, 72, 73, 74, 75, 76, 77, 78, 79, 80, 85, 86] (by decide +kernel) (by decide +kernel)
set_option maxRecDepth 20000 in
theorem gX7_hung_X7_isAsTold : GoodIn wsX7_hung (wsV RX7 242 RX7 yX7_isAsTold wsX7_isAsTold) := goodIn_app (goodIn_of _ (by decide +kernel)) ggX7_hung_X7_isAsTold
theorem dX7_hung_0 : decode cX7_hung 0 = .ok (.aload_n 0, 1) := by decide +kernel
theorem dX7_hung_1 : decode cX7_hung 1 = .ok (.iconst 0, 1) := by decide +kernel
theorem dX7_hung_2 : decode cX7_hung 2 = .ok (.putfield 50, 3) := by decide +kernel
theorem dX7_hung_5 : decode cX7_hung 5 = .ok (.aload_n 0, 1) := by decide +kernel
theorem dX7_hung_6 : decode cX7_hung 6 = .ok (.getfield 20, 3) := by decide +kernel
theorem dX7_hung_9 : decode cX7_hung 9 = .ok (.iload_n 1, 1) := by decide +kernel
theorem dX7_hung_10 : decode cX7_hung 10 = .ok (.invokevirtual 143, 3) := by decide +kernel
theorem dX7_hung_13 : decode cX7_hung 13 = .ok (.ifCond .eq 10, 3) := by decide +kernel
theorem dX7_hung_16 : decode cX7_hung 16 = .ok (.iload_n 3, 1) := by decide +kernel
theorem dX7_hung_17 : decode cX7_hung 17 = .ok (.invokestatic 54, 3) := by decide +kernel
theorem dX7_hung_20 : decode cX7_hung 20 = .ok (.ifCond .ne 5, 3) := by decide +kernel
theorem dX7_hung_23 : decode cX7_hung 23 = .ok (.iconst (-1), 1) := by decide +kernel
theorem dX7_hung_24 : decode cX7_hung 24 = .ok (.ireturn, 1) := by decide +kernel
theorem dX7_hung_25 : decode cX7_hung 25 = .ok (.iload_n 2, 1) := by decide +kernel
theorem dX7_hung_26 : decode cX7_hung 26 = .ok (.iconst 0, 1) := by decide +kernel
theorem dX7_hung_27 : decode cX7_hung 27 = .ok (.bipush 9, 2) := by decide +kernel
theorem dX7_hung_29 : decode cX7_hung 29 = .ok (.invokestatic 108, 3) := by decide +kernel
theorem dX7_hung_32 : decode cX7_hung 32 = .ok (.ifCond .eq 21, 3) := by decide +kernel
theorem dX7_hung_35 : decode cX7_hung 35 = .ok (.iload 6, 2) := by decide +kernel
theorem dX7_hung_37 : decode cX7_hung 37 = .ok (.iconst 0, 1) := by decide +kernel
theorem dX7_hung_38 : decode cX7_hung 38 = .ok (.iconst 2, 1) := by decide +kernel
theorem dX7_hung_39 : decode cX7_hung 39 = .ok (.invokestatic 108, 3) := by decide +kernel
theorem dX7_hung_42 : decode cX7_hung 42 = .ok (.ifCond .eq 11, 3) := by decide +kernel
theorem dX7_hung_45 : decode cX7_hung 45 = .ok (.iload 4, 2) := by decide +kernel
theorem dX7_hung_47 : decode cX7_hung 47 = .ok (.invokestatic 58, 3) := by decide +kernel
theorem dX7_hung_50 : decode cX7_hung 50 = .ok (.ifCond .ne 6, 3) := by decide +kernel
theorem dX7_hung_53 : decode cX7_hung 53 = .ok (.bipush (-2), 2) := by decide +kernel
theorem dX7_hung_55 : decode cX7_hung 55 = .ok (.ireturn, 1) := by decide +kernel
theorem dX7_hung_56 : decode cX7_hung 56 = .ok (.aload_n 0, 1) := by decide +kernel
theorem dX7_hung_57 : decode cX7_hung 57 = .ok (.getfield 13, 3) := by decide +kernel
theorem dX7_hung_60 : decode cX7_hung 60 = .ok (.iload_n 3, 1) := by decide +kernel
theorem dX7_hung_61 : decode cX7_hung 61 = .ok (.aaload, 1) := by decide +kernel
theorem dX7_hung_62 : decode cX7_hung 62 = .ok (.iload 4, 2) := by decide +kernel
theorem dX7_hung_64 : decode cX7_hung 64 = .ok (.iload 5, 2) := by decide +kernel
theorem dX7_hung_66 : decode cX7_hung 66 = .ok (.iconst 3, 1) := by decide +kernel
theorem dX7_hung_67 : decode cX7_hung 67 = .ok (.invokevirtual 239, 3) := by decide +kernel
theorem dX7_hung_70 : decode cX7_hung 70 = .ok (.istore 7, 2) := by decide +kernel
theorem dX7_hung_72 : decode cX7_hung 72 = .ok (.iload 7, 2) := by decide +kernel
theorem dX7_hung_74 : decode cX7_hung 74 = .ok (.ifCond .eq 10, 3) := by decide +kernel
theorem dX7_hung_77 : decode cX7_hung 77 = .ok (.aload_n 0, 1) := by decide +kernel
theorem dX7_hung_78 : decode cX7_hung 78 = .ok (.iload 7, 2) := by decide +kernel
theorem dX7_hung_80 : decode cX7_hung 80 = .ok (.invokevirtual 69, 3) := by decide +kernel
theorem dX7_hung_83 : decode cX7_hung 83 = .ok (.ireturn, 1) := by decide +kernel
theorem dX7_hung_84 : decode cX7_hung 84 = .ok (.iconst 0, 1) := by decide +kernel
theorem dX7_hung_85 : decode cX7_hung 85 = .ok (.istore 8, 2) := by decide +kernel
theorem dX7_hung_87 : decode cX7_hung 87 = .ok (.bipush (-9), 2) := by decide +kernel
theorem dX7_hung_89 : decode cX7_hung 89 = .ok (.istore 9, 2) := by decide +kernel
theorem dX7_hung_91 : decode cX7_hung 91 = .ok (.bipush (-9), 2) := by decide +kernel
theorem dX7_hung_93 : decode cX7_hung 93 = .ok (.istore 10, 2) := by decide +kernel
theorem dX7_hung_95 : decode cX7_hung 95 = .ok (.iconst 0, 1) := by decide +kernel
theorem dX7_hung_96 : decode cX7_hung 96 = .ok (.istore 11, 2) := by decide +kernel
theorem dX7_hung_98 : decode cX7_hung 98 = .ok (.iload 11, 2) := by decide +kernel
theorem dX7_hung_100 : decode cX7_hung 100 = .ok (.aload_n 0, 1) := by decide +kernel
theorem dX7_hung_101 : decode cX7_hung 101 = .ok (.getfield 20, 3) := by decide +kernel
theorem dX7_hung_104 : decode cX7_hung 104 = .ok (.getfield 122, 3) := by decide +kernel
theorem dX7_hung_107 : decode cX7_hung 107 = .ok (.if_icmp .gt 44, 3) := by decide +kernel
theorem dX7_hung_110 : decode cX7_hung 110 = .ok (.aload_n 0, 1) := by decide +kernel
theorem dX7_hung_111 : decode cX7_hung 111 = .ok (.iload_n 1, 1) := by decide +kernel
theorem dX7_hung_112 : decode cX7_hung 112 = .ok (.iload_n 2, 1) := by decide +kernel
theorem dX7_hung_113 : decode cX7_hung 113 = .ok (.iload 11, 2) := by decide +kernel
theorem dX7_hung_115 : decode cX7_hung 115 = .ok (.iload_n 3, 1) := by decide +kernel
theorem dX7_hung_116 : decode cX7_hung 116 = .ok (.iload 5, 2) := by decide +kernel
theorem dX7_hung_118 : decode cX7_hung 118 = .ok (.invokevirtual 242, 3) := by decide +kernel
theorem dX7_hung_121 : decode cX7_hung 121 = .ok (.ifCond .eq 24, 3) := by decide +kernel
theorem dX7_hung_124 : decode cX7_hung 124 = .ok (.iload 8, 2) := by decide +kernel
theorem dX7_hung_126 : decode cX7_hung 126 = .ok (.ifCond .ne 8, 3) := by decide +kernel
theorem dX7_hung_129 : decode cX7_hung 129 = .ok (.iload 11, 2) := by decide +kernel
theorem dX7_hung_131 : decode cX7_hung 131 = .ok (.goto 5, 3) := by decide +kernel
theorem dX7_hung_134 : decode cX7_hung 134 = .ok (.iload 9, 2) := by decide +kernel
theorem dX7_hung_136 : decode cX7_hung 136 = .ok (.istore 9, 2) := by decide +kernel
theorem dX7_hung_138 : decode cX7_hung 138 = .ok (.iload 11, 2) := by decide +kernel
theorem dX7_hung_140 : decode cX7_hung 140 = .ok (.istore 10, 2) := by decide +kernel
theorem dX7_hung_142 : decode cX7_hung 142 = .ok (.iinc 8 1, 3) := by decide +kernel
theorem dX7_hung_145 : decode cX7_hung 145 = .ok (.iinc 11 1, 3) := by decide +kernel
theorem dX7_hung_148 : decode cX7_hung 148 = .ok (.goto (-50), 3) := by decide +kernel
theorem dX7_hung_151 : decode cX7_hung 151 = .ok (.iload 6, 2) := by decide +kernel
theorem dX7_hung_153 : decode cX7_hung 153 = .ok (.ifCond .ne 6, 3) := by decide +kernel
theorem dX7_hung_156 : decode cX7_hung 156 = .ok (.iload 8, 2) := by decide +kernel
theorem dX7_hung_158 : decode cX7_hung 158 = .ok (.ireturn, 1) := by decide +kernel
theorem dX7_hung_159 : decode cX7_hung 159 = .ok (.iload 6, 2) := by decide +kernel
theorem dX7_hung_161 : decode cX7_hung 161 = .ok (.iconst 1, 1) := by decide +kernel
theorem dX7_hung_162 : decode cX7_hung 162 = .ok (.if_icmp .ne 8, 3) := by decide +kernel
theorem dX7_hung_165 : decode cX7_hung 165 = .ok (.iload 9, 2) := by decide +kernel
theorem dX7_hung_167 : decode cX7_hung 167 = .ok (.goto 5, 3) := by decide +kernel
theorem dX7_hung_170 : decode cX7_hung 170 = .ok (.iload 10, 2) := by decide +kernel
theorem dX7_hung_172 : decode cX7_hung 172 = .ok (.ireturn, 1) := by decide +kernel
set_option maxRecDepth 20000 in
theorem ggX7_old_X6_hasCoat : GoodIn wsX7_old wsX6_hasCoat := goodIn_r _ [9, 10, 70, 71, 72, 73, 74, 75, 76, 77, 78, 79, 80] (by decide +kernel) (by decide +kernel)
set_option maxRecDepth 20000 in
theorem gX7_old_X6_hasCoat : GoodIn wsX7_old (wsV RX7 143 RX6 yX6_hasCoat wsX6_hasCoat) := goodIn_app (goodIn_of _ (by decide +kernel)) ggX7_old_X6_hasCoat
set_option maxRecDepth 20000 in
theorem ggX7_old_X7_isSheet : GoodIn wsX7_old wsX7_isSheet := goodIn_r _ [14, 15, 16, 13, 17] (by decide +kernel) (by decide +kernel)
set_option maxRecDepth 20000 in
theorem gX7_old_X7_isSheet : GoodIn wsX7_old (va_wsS RX7 54 yX7_isSheet wsX7_isSheet) := goodIn_app (goodIn_of _ (by decide +kernel)) ggX7_old_X7_isSheet
set_option maxRecDepth 20000 in
theorem ggX7_old_X7_isWithin : GoodIn wsX7_old wsX7_isWithin := goodIn_r _ [17] (by decide +kernel) (by decide +kernel)
set_option maxRecDepth 20000 in
theorem gX7_old_X7_isWithin : GoodIn wsX7_old (va_wsS RX7 108 yX7_isWithin wsX7_isWithin) := goodIn_app (goodIn_of _ (by decide +kernel)) ggX7_old_X7_isWithin
set_option maxRecDepth 20000 in
theorem ggX7_old_X7_isSort : GoodIn wsX7_old wsX7_isSort := goodIn_r _ [20, 15, 16, 13, 17] (by decide +kernel) (by decide +kernel)
set_option maxRecDepth 20000 in
theorem gX7_old_X7_isSort : GoodIn wsX7_old (va_wsS RX7 58 yX7_isSort wsX7_isSort) := goodIn_app (goodIn_of _ (by decide +kernel)) ggX7_old_X7_isSort
set_option maxRecDepth 20000 in
theorem ggX7_old_X5_faultOfCells : GoodIn wsX7_old wsX5_faultOfCells := goodIn_r _ [25, 26, 27, 28, 24, 29, 30, 31, 32, 33, 34, 35, 36, 81, 82, 83, 84] (by decide +kernel) (by decide +kernel)
set_option maxRecDepth 20000 in
theorem gX7_old_X5_faultOfCells : GoodIn wsX7_old (wsV RX7 239 RX5 yX5_faultOfCells wsX5_faultOfCells) := goodIn_app (goodIn_of _ (by decide +kernel)) ggX7_old_X5_faultOfCells
set_option maxRecDepth 20000 in
theorem ggX7_old_X7_failed : GoodIn wsX7_old wsX7_failed := goodIn_r _ [40, 1, 63, 64, 65, 66, 67, 68, 69] (by decide +kernel) (by decide +kernel)
set_option maxRecDepth 20000 in
theorem gX7_old_X7_failed : GoodIn wsX7_old (wsV RX7 69 RX7 yX7_failed wsX7_failed) := goodIn_app (goodIn_of _ (by decide +kernel)) ggX7_old_X7_failed
set_option maxRecDepth 20000 in
theorem ggX7_old_X7_isAsTold : GoodIn wsX7_old wsX7_isAsTold := goodIn_r _ [44, 4, 45, 2, 46, 47, 48, 49, 50, 51, 52, 53, 54, 55, 56, 57, 58, 59, 60, 61, 62, 63, 64, 65, 66, 67, 68, 69, 81, 82, 83, 84, 70, 71, 72, 73, 74, 75, 76, 77, 78, 79, 80, 85, 86] (by decide +kernel) (by decide +kernel)
set_option maxRecDepth 20000 in
theorem gX7_old_X7_isAsTold : GoodIn wsX7_old (wsV RX7 242 RX7 yX7_isAsTold wsX7_isAsTold) := goodIn_app (goodIn_of _ (by decide +kernel)) ggX7_old_X7_isAsTold
theorem dX7_old_0 : decode cX7_old 0 = .ok (.aload_n 0, 1) := by decide +kernel
theorem dX7_old_1 : decode cX7_old 1 = .ok (.iconst 0, 1) := by decide +kernel
theorem dX7_old_2 : decode cX7_old 2 = .ok (.putfield 50, 3) := by decide +kernel
theorem dX7_old_5 : decode cX7_old 5 = .ok (.aload_n 0, 1) := by decide +kernel
theorem dX7_old_6 : decode cX7_old 6 = .ok (.getfield 20, 3) := by decide +kernel
theorem dX7_old_9 : decode cX7_old 9 = .ok (.iload_n 1, 1) := by decide +kernel
theorem dX7_old_10 : decode cX7_old 10 = .ok (.invokevirtual 143, 3) := by decide +kernel
theorem dX7_old_13 : decode cX7_old 13 = .ok (.ifCond .eq 28, 3) := by decide +kernel
theorem dX7_old_16 : decode cX7_old 16 = .ok (.iload_n 3, 1) := by decide +kernel
theorem dX7_old_17 : decode cX7_old 17 = .ok (.invokestatic 54, 3) := by decide +kernel
theorem dX7_old_20 : decode cX7_old 20 = .ok (.ifCond .eq 21, 3) := by decide +kernel
theorem dX7_old_23 : decode cX7_old 23 = .ok (.iload_n 2, 1) := by decide +kernel
theorem dX7_old_24 : decode cX7_old 24 = .ok (.iconst 0, 1) := by decide +kernel
theorem dX7_old_25 : decode cX7_old 25 = .ok (.bipush 9, 2) := by decide +kernel
theorem dX7_old_27 : decode cX7_old 27 = .ok (.invokestatic 108, 3) := by decide +kernel
theorem dX7_old_30 : decode cX7_old 30 = .ok (.ifCond .eq 11, 3) := by decide +kernel
theorem dX7_old_33 : decode cX7_old 33 = .ok (.iload 4, 2) := by decide +kernel
theorem dX7_old_35 : decode cX7_old 35 = .ok (.invokestatic 58, 3) := by decide +kernel
theorem dX7_old_38 : decode cX7_old 38 = .ok (.ifCond .ne 7, 3) := by decide +kernel
theorem dX7_old_41 : decode cX7_old 41 = .ok (.ldc2_w 246, 3) := by decide +kernel
theorem dX7_old_44 : decode cX7_old 44 = .ok (.lreturn, 1) := by decide +kernel
theorem dX7_old_45 : decode cX7_old 45 = .ok (.aload_n 0, 1) := by decide +kernel
theorem dX7_old_46 : decode cX7_old 46 = .ok (.getfield 13, 3) := by decide +kernel
theorem dX7_old_49 : decode cX7_old 49 = .ok (.iload_n 3, 1) := by decide +kernel
theorem dX7_old_50 : decode cX7_old 50 = .ok (.aaload, 1) := by decide +kernel
theorem dX7_old_51 : decode cX7_old 51 = .ok (.iload 4, 2) := by decide +kernel
theorem dX7_old_53 : decode cX7_old 53 = .ok (.iload 5, 2) := by decide +kernel
theorem dX7_old_55 : decode cX7_old 55 = .ok (.iconst 3, 1) := by decide +kernel
theorem dX7_old_56 : decode cX7_old 56 = .ok (.invokevirtual 239, 3) := by decide +kernel
theorem dX7_old_59 : decode cX7_old 59 = .ok (.istore 6, 2) := by decide +kernel
theorem dX7_old_61 : decode cX7_old 61 = .ok (.iload 6, 2) := by decide +kernel
theorem dX7_old_63 : decode cX7_old 63 = .ok (.ifCond .eq 14, 3) := by decide +kernel
theorem dX7_old_66 : decode cX7_old 66 = .ok (.aload_n 0, 1) := by decide +kernel
theorem dX7_old_67 : decode cX7_old 67 = .ok (.iload 6, 2) := by decide +kernel
theorem dX7_old_69 : decode cX7_old 69 = .ok (.invokevirtual 69, 3) := by decide +kernel
theorem dX7_old_72 : decode cX7_old 72 = .ok (.pop, 1) := by decide +kernel
theorem dX7_old_73 : decode cX7_old 73 = .ok (.ldc2_w 246, 3) := by decide +kernel
theorem dX7_old_76 : decode cX7_old 76 = .ok (.lreturn, 1) := by decide +kernel
theorem dX7_old_77 : decode cX7_old 77 = .ok (.lconst 0, 1) := by decide +kernel
theorem dX7_old_78 : decode cX7_old 78 = .ok (.lstore 7, 2) := by decide +kernel
theorem dX7_old_80 : decode cX7_old 80 = .ok (.iconst 0, 1) := by decide +kernel
theorem dX7_old_81 : decode cX7_old 81 = .ok (.istore 9, 2) := by decide +kernel
theorem dX7_old_83 : decode cX7_old 83 = .ok (.iload 9, 2) := by decide +kernel
theorem dX7_old_85 : decode cX7_old 85 = .ok (.bipush 40, 2) := by decide +kernel
theorem dX7_old_87 : decode cX7_old 87 = .ok (.if_icmp .gt 32, 3) := by decide +kernel
theorem dX7_old_90 : decode cX7_old 90 = .ok (.aload_n 0, 1) := by decide +kernel
theorem dX7_old_91 : decode cX7_old 91 = .ok (.iload_n 1, 1) := by decide +kernel
theorem dX7_old_92 : decode cX7_old 92 = .ok (.iload_n 2, 1) := by decide +kernel
theorem dX7_old_93 : decode cX7_old 93 = .ok (.iload 9, 2) := by decide +kernel
theorem dX7_old_95 : decode cX7_old 95 = .ok (.iload_n 3, 1) := by decide +kernel
theorem dX7_old_96 : decode cX7_old 96 = .ok (.iload 5, 2) := by decide +kernel
theorem dX7_old_98 : decode cX7_old 98 = .ok (.invokevirtual 242, 3) := by decide +kernel
theorem dX7_old_101 : decode cX7_old 101 = .ok (.ifCond .eq 12, 3) := by decide +kernel
theorem dX7_old_104 : decode cX7_old 104 = .ok (.lload 7, 2) := by decide +kernel
theorem dX7_old_106 : decode cX7_old 106 = .ok (.lconst 1, 1) := by decide +kernel
theorem dX7_old_107 : decode cX7_old 107 = .ok (.iload 9, 2) := by decide +kernel
theorem dX7_old_109 : decode cX7_old 109 = .ok (.lshl, 1) := by decide +kernel
theorem dX7_old_110 : decode cX7_old 110 = .ok (.lor, 1) := by decide +kernel
theorem dX7_old_111 : decode cX7_old 111 = .ok (.lstore 7, 2) := by decide +kernel
theorem dX7_old_113 : decode cX7_old 113 = .ok (.iinc 9 1, 3) := by decide +kernel
theorem dX7_old_116 : decode cX7_old 116 = .ok (.goto (-33), 3) := by decide +kernel
theorem dX7_old_119 : decode cX7_old 119 = .ok (.lload 7, 2) := by decide +kernel
theorem dX7_old_121 : decode cX7_old 121 = .ok (.lreturn, 1) := by decide +kernel
set_option maxRecDepth 20000 in
theorem ggX7_sheet_X7_isSheet : GoodIn wsX7_sheet wsX7_isSheet := goodIn_r _ [6, 7, 8, 5, 9] (by decide +kernel) (by decide +kernel)
set_option maxRecDepth 20000 in
theorem gX7_sheet_X7_isSheet : GoodIn wsX7_sheet (va_wsS RX7 54 yX7_isSheet wsX7_isSheet) := goodIn_app (goodIn_of _ (by decide +kernel)) ggX7_sheet_X7_isSheet
set_option maxRecDepth 20000 in
theorem ggX7_sheet_X7_isSort : GoodIn wsX7_sheet wsX7_isSort := goodIn_r _ [12, 7, 8, 5, 9] (by decide +kernel) (by decide +kernel)
set_option maxRecDepth 20000 in
theorem gX7_sheet_X7_isSort : GoodIn wsX7_sheet (va_wsS RX7 58 yX7_isSort wsX7_isSort) := goodIn_app (goodIn_of _ (by decide +kernel)) ggX7_sheet_X7_isSort
set_option maxRecDepth 20000 in
theorem ggX7_sheet_X7_failed : GoodIn wsX7_sheet wsX7_failed := goodIn_r _ [16, 1, 30, 31, 32, 33, 34, 35, 36] (by decide +kernel) (by decide +kernel)
set_option maxRecDepth 20000 in
theorem gX7_sheet_X7_failed : GoodIn wsX7_sheet (wsV RX7 69 RX7 yX7_failed wsX7_failed) := goodIn_app (goodIn_of _ (by decide +kernel)) ggX7_sheet_X7_failed
set_option maxRecDepth 20000 in
theorem ggX7_sheet_X5_begin : GoodIn wsX7_sheet wsX5_begin := goodIn_r _ [21, 22, 23, 24, 25, 26, 27, 28, 29, 37, 38, 39, 40] (by decide +kernel) (by decide +kernel)
set_option maxRecDepth 20000 in
theorem gX7_sheet_X5_begin : GoodIn wsX7_sheet (wsV RX7 248 RX5 yX5_begin wsX5_begin) := goodIn_app (goodIn_of _ (by decide +kernel)) ggX7_sheet_X5_begin
theorem dX7_sheet_0 : decode cX7_sheet 0 = .ok (.aload_n 0, 1) := by decide +kernel
theorem dX7_sheet_1 : decode cX7_sheet 1 = .ok (.iconst 0, 1) := by decide +kernel
theorem dX7_sheet_2 : decode cX7_sheet 2 = .ok (.putfield 50, 3) := by decide +kernel
theorem dX7_sheet_5 : decode cX7_sheet 5 = .ok (.iload_n 1, 1) := by decide +kernel
theorem dX7_sheet_6 : decode cX7_sheet 6 = .ok (.invokestatic 54, 3) := by decide +kernel
theorem dX7_sheet_9 : decode cX7_sheet 9 = .ok (.ifCond .ne 5, 3) := by decide +kernel
theorem dX7_sheet_12 : decode cX7_sheet 12 = .ok (.iconst (-1), 1) := by decide +kernel
theorem dX7_sheet_13 : decode cX7_sheet 13 = .ok (.ireturn, 1) := by decide +kernel
theorem dX7_sheet_14 : decode cX7_sheet 14 = .ok (.iload_n 2, 1) := by decide +kernel
theorem dX7_sheet_15 : decode cX7_sheet 15 = .ok (.invokestatic 58, 3) := by decide +kernel
theorem dX7_sheet_18 : decode cX7_sheet 18 = .ok (.ifCond .eq 9, 3) := by decide +kernel
theorem dX7_sheet_21 : decode cX7_sheet 21 = .ok (.iload_n 3, 1) := by decide +kernel
theorem dX7_sheet_22 : decode cX7_sheet 22 = .ok (.bipush 40, 2) := by decide +kernel
theorem dX7_sheet_24 : decode cX7_sheet 24 = .ok (.if_icmp .le 6, 3) := by decide +kernel
theorem dX7_sheet_27 : decode cX7_sheet 27 = .ok (.bipush (-2), 2) := by decide +kernel
theorem dX7_sheet_29 : decode cX7_sheet 29 = .ok (.ireturn, 1) := by decide +kernel
theorem dX7_sheet_30 : decode cX7_sheet 30 = .ok (.iload_n 3, 1) := by decide +kernel
theorem dX7_sheet_31 : decode cX7_sheet 31 = .ok (.ifCond .ge 9, 3) := by decide +kernel
theorem dX7_sheet_34 : decode cX7_sheet 34 = .ok (.aload_n 0, 1) := by decide +kernel
theorem dX7_sheet_35 : decode cX7_sheet 35 = .ok (.iconst 4, 1) := by decide +kernel
theorem dX7_sheet_36 : decode cX7_sheet 36 = .ok (.invokevirtual 69, 3) := by decide +kernel
theorem dX7_sheet_39 : decode cX7_sheet 39 = .ok (.ireturn, 1) := by decide +kernel
theorem dX7_sheet_40 : decode cX7_sheet 40 = .ok (.aload_n 0, 1) := by decide +kernel
theorem dX7_sheet_41 : decode cX7_sheet 41 = .ok (.getfield 13, 3) := by decide +kernel
theorem dX7_sheet_44 : decode cX7_sheet 44 = .ok (.iload_n 1, 1) := by decide +kernel
theorem dX7_sheet_45 : decode cX7_sheet 45 = .ok (.aaload, 1) := by decide +kernel
theorem dX7_sheet_46 : decode cX7_sheet 46 = .ok (.iload_n 2, 1) := by decide +kernel
theorem dX7_sheet_47 : decode cX7_sheet 47 = .ok (.iload_n 3, 1) := by decide +kernel
theorem dX7_sheet_48 : decode cX7_sheet 48 = .ok (.invokevirtual 248, 3) := by decide +kernel
theorem dX7_sheet_51 : decode cX7_sheet 51 = .ok (.iconst 1, 1) := by decide +kernel
theorem dX7_sheet_52 : decode cX7_sheet 52 = .ok (.ireturn, 1) := by decide +kernel
set_option maxRecDepth 20000 in
theorem ggX7_lose_X7_isSheet : GoodIn wsX7_lose wsX7_isSheet := goodIn_r _ [6, 7, 8, 5, 9] (by decide +kernel) (by decide +kernel)
set_option maxRecDepth 20000 in
theorem gX7_lose_X7_isSheet : GoodIn wsX7_lose (va_wsS RX7 54 yX7_isSheet wsX7_isSheet) := goodIn_app (goodIn_of _ (by decide +kernel)) ggX7_lose_X7_isSheet
theorem dX7_lose_0 : decode cX7_lose 0 = .ok (.iload_n 1, 1) := by decide +kernel
theorem dX7_lose_1 : decode cX7_lose 1 = .ok (.invokestatic 54, 3) := by decide +kernel
theorem dX7_lose_4 : decode cX7_lose 4 = .ok (.ifCond .ne 5, 3) := by decide +kernel
theorem dX7_lose_7 : decode cX7_lose 7 = .ok (.iconst (-1), 1) := by decide +kernel
theorem dX7_lose_8 : decode cX7_lose 8 = .ok (.ireturn, 1) := by decide +kernel
theorem dX7_lose_9 : decode cX7_lose 9 = .ok (.aload_n 0, 1) := by decide +kernel
theorem dX7_lose_10 : decode cX7_lose 10 = .ok (.getfield 13, 3) := by decide +kernel
theorem dX7_lose_13 : decode cX7_lose 13 = .ok (.iload_n 1, 1) := by decide +kernel
theorem dX7_lose_14 : decode cX7_lose 14 = .ok (.aaload, 1) := by decide +kernel
theorem dX7_lose_15 : decode cX7_lose 15 = .ok (.getfield 251, 3) := by decide +kernel
theorem dX7_lose_18 : decode cX7_lose 18 = .ok (.istore_n 2, 1) := by decide +kernel
theorem dX7_lose_19 : decode cX7_lose 19 = .ok (.aload_n 0, 1) := by decide +kernel
theorem dX7_lose_20 : decode cX7_lose 20 = .ok (.getfield 13, 3) := by decide +kernel
theorem dX7_lose_23 : decode cX7_lose 23 = .ok (.iload_n 1, 1) := by decide +kernel
theorem dX7_lose_24 : decode cX7_lose 24 = .ok (.aaload, 1) := by decide +kernel
theorem dX7_lose_25 : decode cX7_lose 25 = .ok (.iconst 0, 1) := by decide +kernel
theorem dX7_lose_26 : decode cX7_lose 26 = .ok (.putfield 251, 3) := by decide +kernel
theorem dX7_lose_29 : decode cX7_lose 29 = .ok (.iload_n 2, 1) := by decide +kernel
theorem dX7_lose_30 : decode cX7_lose 30 = .ok (.ifCond .eq 7, 3) := by decide +kernel
theorem dX7_lose_33 : decode cX7_lose 33 = .ok (.iconst 1, 1) := by decide +kernel
theorem dX7_lose_34 : decode cX7_lose 34 = .ok (.goto 4, 3) := by decide +kernel
theorem dX7_lose_37 : decode cX7_lose 37 = .ok (.iconst 0, 1) := by decide +kernel
theorem dX7_lose_38 : decode cX7_lose 38 = .ok (.ireturn, 1) := by decide +kernel
set_option maxRecDepth 20000 in
theorem ggX7_put_X7_isSheet : GoodIn wsX7_put wsX7_isSheet := goodIn_r _ [8, 9, 10, 7, 11] (by decide +kernel) (by decide +kernel)
set_option maxRecDepth 20000 in
theorem gX7_put_X7_isSheet : GoodIn wsX7_put (va_wsS RX7 54 yX7_isSheet wsX7_isSheet) := goodIn_app (goodIn_of _ (by decide +kernel)) ggX7_put_X7_isSheet
set_option maxRecDepth 20000 in
theorem ggX7_put_X7_failed : GoodIn wsX7_put wsX7_failed := goodIn_r _ [15, 1, 27, 28, 29, 30, 31, 32, 33] (by decide +kernel) (by decide +kernel)
set_option maxRecDepth 20000 in
theorem gX7_put_X7_failed : GoodIn wsX7_put (wsV RX7 69 RX7 yX7_failed wsX7_failed) := goodIn_app (goodIn_of _ (by decide +kernel)) ggX7_put_X7_failed
set_option maxRecDepth 20000 in
theorem ggX7_put_X5_reaches : GoodIn wsX7_put wsX5_reaches := goodIn_r _ [20, 21, 34, 35, 36, 37] (by decide +kernel) (by decide +kernel)
set_option maxRecDepth 20000 in
theorem gX7_put_X5_reaches : GoodIn wsX7_put (wsV RX7 65 RX5 yX5_reaches wsX5_reaches) := goodIn_app (goodIn_of _ (by decide +kernel)) ggX7_put_X5_reaches
set_option maxRecDepth 20000 in
theorem ggX7_put_X5_cut : GoodIn wsX7_put wsX5_cut := goodIn_r _ [25, 26, 34, 35, 36, 37] (by decide +kernel) (by decide +kernel)
set_option maxRecDepth 20000 in
theorem gX7_put_X5_cut : GoodIn wsX7_put (wsV RX7 257 RX5 yX5_cut wsX5_cut) := goodIn_app (goodIn_of _ (by decide +kernel)) ggX7_put_X5_cut
theorem dX7_put_0 : decode cX7_put 0 = .ok (.aload_n 0, 1) := by decide +kernel
theorem dX7_put_1 : decode cX7_put 1 = .ok (.iconst 0, 1) := by decide +kernel
theorem dX7_put_2 : decode cX7_put 2 = .ok (.putfield 50, 3) := by decide +kernel
theorem dX7_put_5 : decode cX7_put 5 = .ok (.iload_n 1, 1) := by decide +kernel
theorem dX7_put_6 : decode cX7_put 6 = .ok (.invokestatic 54, 3) := by decide +kernel
theorem dX7_put_9 : decode cX7_put 9 = .ok (.ifCond .ne 5, 3) := by decide +kernel
theorem dX7_put_12 : decode cX7_put 12 = .ok (.iconst (-1), 1) := by decide +kernel
theorem dX7_put_13 : decode cX7_put 13 = .ok (.ireturn, 1) := by decide +kernel
theorem dX7_put_14 : decode cX7_put 14 = .ok (.aload_n 0, 1) := by decide +kernel
theorem dX7_put_15 : decode cX7_put 15 = .ok (.getfield 13, 3) := by decide +kernel
theorem dX7_put_18 : decode cX7_put 18 = .ok (.iload_n 1, 1) := by decide +kernel
theorem dX7_put_19 : decode cX7_put 19 = .ok (.aaload, 1) := by decide +kernel
theorem dX7_put_20 : decode cX7_put 20 = .ok (.astore 4, 2) := by decide +kernel
theorem dX7_put_22 : decode cX7_put 22 = .ok (.aload 4, 2) := by decide +kernel
theorem dX7_put_24 : decode cX7_put 24 = .ok (.getfield 251, 3) := by decide +kernel
theorem dX7_put_27 : decode cX7_put 27 = .ok (.ifCond .ne 9, 3) := by decide +kernel
theorem dX7_put_30 : decode cX7_put 30 = .ok (.aload_n 0, 1) := by decide +kernel
theorem dX7_put_31 : decode cX7_put 31 = .ok (.iconst 1, 1) := by decide +kernel
theorem dX7_put_32 : decode cX7_put 32 = .ok (.invokevirtual 69, 3) := by decide +kernel
theorem dX7_put_35 : decode cX7_put 35 = .ok (.ireturn, 1) := by decide +kernel
theorem dX7_put_36 : decode cX7_put 36 = .ok (.aload 4, 2) := by decide +kernel
theorem dX7_put_38 : decode cX7_put 38 = .ok (.iload_n 2, 1) := by decide +kernel
theorem dX7_put_39 : decode cX7_put 39 = .ok (.iconst 1, 1) := by decide +kernel
theorem dX7_put_40 : decode cX7_put 40 = .ok (.invokevirtual 65, 3) := by decide +kernel
theorem dX7_put_43 : decode cX7_put 43 = .ok (.ifCond .ne 9, 3) := by decide +kernel
theorem dX7_put_46 : decode cX7_put 46 = .ok (.aload_n 0, 1) := by decide +kernel
theorem dX7_put_47 : decode cX7_put 47 = .ok (.iconst 3, 1) := by decide +kernel
theorem dX7_put_48 : decode cX7_put 48 = .ok (.invokevirtual 69, 3) := by decide +kernel
theorem dX7_put_51 : decode cX7_put 51 = .ok (.ireturn, 1) := by decide +kernel
theorem dX7_put_52 : decode cX7_put 52 = .ok (.aload 4, 2) := by decide +kernel
theorem dX7_put_54 : decode cX7_put 54 = .ok (.getfield 254, 3) := by decide +kernel
theorem dX7_put_57 : decode cX7_put 57 = .ok (.iload_n 2, 1) := by decide +kernel
theorem dX7_put_58 : decode cX7_put 58 = .ok (.aload 4, 2) := by decide +kernel
theorem dX7_put_60 : decode cX7_put 60 = .ok (.iload_n 3, 1) := by decide +kernel
theorem dX7_put_61 : decode cX7_put 61 = .ok (.invokevirtual 257, 3) := by decide +kernel
theorem dX7_put_64 : decode cX7_put 64 = .ok (.iastore, 1) := by decide +kernel
theorem dX7_put_65 : decode cX7_put 65 = .ok (.iconst 1, 1) := by decide +kernel
theorem dX7_put_66 : decode cX7_put 66 = .ok (.ireturn, 1) := by decide +kernel
set_option maxRecDepth 20000 in
theorem ggX7_cell_X7_isSheet : GoodIn wsX7_cell wsX7_isSheet := goodIn_r _ [8, 9, 10, 7, 11] (by decide +kernel) (by decide +kernel)
set_option maxRecDepth 20000 in
theorem gX7_cell_X7_isSheet : GoodIn wsX7_cell (va_wsS RX7 54 yX7_isSheet wsX7_isSheet) := goodIn_app (goodIn_of _ (by decide +kernel)) ggX7_cell_X7_isSheet
set_option maxRecDepth 20000 in
theorem ggX7_cell_X7_isSort : GoodIn wsX7_cell wsX7_isSort := goodIn_r _ [14, 9, 10, 7, 11] (by decide +kernel) (by decide +kernel)
set_option maxRecDepth 20000 in
theorem gX7_cell_X7_isSort : GoodIn wsX7_cell (va_wsS RX7 58 yX7_isSort wsX7_isSort) := goodIn_app (goodIn_of _ (by decide +kernel)) ggX7_cell_X7_isSort
set_option maxRecDepth 20000 in
theorem ggX7_cell_X5_faultOfCells : GoodIn wsX7_cell wsX5_faultOfCells := goodIn_r _ [19, 20, 21, 22, 18, 23, 24, 25, 26, 27, 28, 29, 30, 42, 43, 44, 45] (by decide +kernel) (by decide +kernel)
set_option maxRecDepth 20000 in
theorem gX7_cell_X5_faultOfCells : GoodIn wsX7_cell (wsV RX7 239 RX5 yX5_faultOfCells wsX5_faultOfCells) := goodIn_app (goodIn_of _ (by decide +kernel)) ggX7_cell_X5_faultOfCells
set_option maxRecDepth 20000 in
theorem ggX7_cell_X7_failed : GoodIn wsX7_cell wsX7_failed := goodIn_r _ [34, 1, 35, 36, 37, 38, 39, 40, 41] (by decide +kernel) (by decide +kernel)
set_option maxRecDepth 20000 in
theorem gX7_cell_X7_failed : GoodIn wsX7_cell (wsV RX7 69 RX7 yX7_failed wsX7_failed) := goodIn_app (goodIn_of _ (by decide +kernel)) ggX7_cell_X7_failed
theorem dX7_cell_0 : decode cX7_cell 0 = .ok (.aload_n 0, 1) := by decide +kernel
theorem dX7_cell_1 : decode cX7_cell 1 = .ok (.iconst 0, 1) := by decide +kernel
theorem dX7_cell_2 : decode cX7_cell 2 = .ok (.putfield 50, 3) := by decide +kernel
theorem dX7_cell_5 : decode cX7_cell 5 = .ok (.iload_n 1, 1) := by decide +kernel
theorem dX7_cell_6 : decode cX7_cell 6 = .ok (.invokestatic 54, 3) := by decide +kernel
theorem dX7_cell_9 : decode cX7_cell 9 = .ok (.ifCond .eq 10, 3) := by decide +kernel
theorem dX7_cell_12 : decode cX7_cell 12 = .ok (.iload_n 3, 1) := by decide +kernel
theorem dX7_cell_13 : decode cX7_cell 13 = .ok (.invokestatic 58, 3) := by decide +kernel
theorem dX7_cell_16 : decode cX7_cell 16 = .ok (.ifCond .ne 7, 3) := by decide +kernel
theorem dX7_cell_19 : decode cX7_cell 19 = .ok (.ldc2_w 246, 3) := by decide +kernel
theorem dX7_cell_22 : decode cX7_cell 22 = .ok (.lreturn, 1) := by decide +kernel
theorem dX7_cell_23 : decode cX7_cell 23 = .ok (.aload_n 0, 1) := by decide +kernel
theorem dX7_cell_24 : decode cX7_cell 24 = .ok (.getfield 13, 3) := by decide +kernel
theorem dX7_cell_27 : decode cX7_cell 27 = .ok (.iload_n 1, 1) := by decide +kernel
theorem dX7_cell_28 : decode cX7_cell 28 = .ok (.aaload, 1) := by decide +kernel
theorem dX7_cell_29 : decode cX7_cell 29 = .ok (.iload_n 3, 1) := by decide +kernel
theorem dX7_cell_30 : decode cX7_cell 30 = .ok (.iload_n 2, 1) := by decide +kernel
theorem dX7_cell_31 : decode cX7_cell 31 = .ok (.iconst 1, 1) := by decide +kernel
theorem dX7_cell_32 : decode cX7_cell 32 = .ok (.invokevirtual 239, 3) := by decide +kernel
theorem dX7_cell_35 : decode cX7_cell 35 = .ok (.istore 4, 2) := by decide +kernel
theorem dX7_cell_37 : decode cX7_cell 37 = .ok (.iload 4, 2) := by decide +kernel
theorem dX7_cell_39 : decode cX7_cell 39 = .ok (.ifCond .eq 14, 3) := by decide +kernel
theorem dX7_cell_42 : decode cX7_cell 42 = .ok (.aload_n 0, 1) := by decide +kernel
theorem dX7_cell_43 : decode cX7_cell 43 = .ok (.iload 4, 2) := by decide +kernel
theorem dX7_cell_45 : decode cX7_cell 45 = .ok (.invokevirtual 69, 3) := by decide +kernel
theorem dX7_cell_48 : decode cX7_cell 48 = .ok (.pop, 1) := by decide +kernel
theorem dX7_cell_49 : decode cX7_cell 49 = .ok (.ldc2_w 246, 3) := by decide +kernel
theorem dX7_cell_52 : decode cX7_cell 52 = .ok (.lreturn, 1) := by decide +kernel
theorem dX7_cell_53 : decode cX7_cell 53 = .ok (.aload_n 0, 1) := by decide +kernel
theorem dX7_cell_54 : decode cX7_cell 54 = .ok (.getfield 13, 3) := by decide +kernel
theorem dX7_cell_57 : decode cX7_cell 57 = .ok (.iload_n 1, 1) := by decide +kernel
theorem dX7_cell_58 : decode cX7_cell 58 = .ok (.aaload, 1) := by decide +kernel
theorem dX7_cell_59 : decode cX7_cell 59 = .ok (.getfield 254, 3) := by decide +kernel
theorem dX7_cell_62 : decode cX7_cell 62 = .ok (.iload_n 2, 1) := by decide +kernel
theorem dX7_cell_63 : decode cX7_cell 63 = .ok (.iaload, 1) := by decide +kernel
theorem dX7_cell_64 : decode cX7_cell 64 = .ok (.i2l, 1) := by decide +kernel
theorem dX7_cell_65 : decode cX7_cell 65 = .ok (.lreturn, 1) := by decide +kernel
set_option maxRecDepth 20000 in
theorem ggX7_copy_X7_isSheet : GoodIn wsX7_copy wsX7_isSheet := goodIn_r _ [13, 14, 15, 12, 16] (by decide +kernel) (by decide +kernel)
set_option maxRecDepth 20000 in
theorem gX7_copy_X7_isSheet : GoodIn wsX7_copy (va_wsS RX7 54 yX7_isSheet wsX7_isSheet) := goodIn_app (goodIn_of _ (by decide +kernel)) ggX7_copy_X7_isSheet
set_option maxRecDepth 20000 in
theorem ggX7_copy_X7_failed : GoodIn wsX7_copy wsX7_failed := goodIn_r _ [20, 1, 27, 28, 29, 30, 31, 32, 33] (by decide +kernel) (by decide +kernel)
set_option maxRecDepth 20000 in
theorem gX7_copy_X7_failed : GoodIn wsX7_copy (wsV RX7 69 RX7 yX7_failed wsX7_failed) := goodIn_app (goodIn_of _ (by decide +kernel)) ggX7_copy_X7_failed
set_option maxRecDepth 20000 in
theorem ggX7_copy_X5_reaches : GoodIn wsX7_copy wsX5_reaches := goodIn_r _ [25, 26, 34, 35, 36, 37] (by decide +kernel) (by decide +kernel)
set_option maxRecDepth 20000 in
theorem gX7_copy_X5_reaches : GoodIn wsX7_copy (wsV RX7 65 RX5 yX5_reaches wsX5_reaches) := goodIn_app (goodIn_of _ (by decide +kernel)) ggX7_copy_X5_reaches
theorem dX7_copy_0 : decode cX7_copy 0 = .ok (.aload_n 0, 1) := by decide +kernel
theorem dX7_copy_1 : decode cX7_copy 1 = .ok (.iconst 0, 1) := by decide +kernel
theorem dX7_copy_2 : decode cX7_copy 2 = .ok (.putfield 50, 3) := by decide +kernel
theorem dX7_copy_5 : decode cX7_copy 5 = .ok (.iload_n 1, 1) := by decide +kernel
theorem dX7_copy_6 : decode cX7_copy 6 = .ok (.invokestatic 54, 3) := by decide +kernel
theorem dX7_copy_9 : decode cX7_copy 9 = .ok (.ifCond .eq 10, 3) := by decide +kernel
theorem dX7_copy_12 : decode cX7_copy 12 = .ok (.iload_n 3, 1) := by decide +kernel
theorem dX7_copy_13 : decode cX7_copy 13 = .ok (.invokestatic 54, 3) := by decide +kernel
theorem dX7_copy_16 : decode cX7_copy 16 = .ok (.ifCond .ne 5, 3) := by decide +kernel
theorem dX7_copy_19 : decode cX7_copy 19 = .ok (.iconst (-1), 1) := by decide +kernel
theorem dX7_copy_20 : decode cX7_copy 20 = .ok (.ireturn, 1) := by decide +kernel
theorem dX7_copy_21 : decode cX7_copy 21 = .ok (.aload_n 0, 1) := by decide +kernel
theorem dX7_copy_22 : decode cX7_copy 22 = .ok (.getfield 13, 3) := by decide +kernel
theorem dX7_copy_25 : decode cX7_copy 25 = .ok (.iload_n 1, 1) := by decide +kernel
theorem dX7_copy_26 : decode cX7_copy 26 = .ok (.aaload, 1) := by decide +kernel
theorem dX7_copy_27 : decode cX7_copy 27 = .ok (.astore 6, 2) := by decide +kernel
theorem dX7_copy_29 : decode cX7_copy 29 = .ok (.aload_n 0, 1) := by decide +kernel
theorem dX7_copy_30 : decode cX7_copy 30 = .ok (.getfield 13, 3) := by decide +kernel
theorem dX7_copy_33 : decode cX7_copy 33 = .ok (.iload_n 3, 1) := by decide +kernel
theorem dX7_copy_34 : decode cX7_copy 34 = .ok (.aaload, 1) := by decide +kernel
theorem dX7_copy_35 : decode cX7_copy 35 = .ok (.astore 7, 2) := by decide +kernel
theorem dX7_copy_37 : decode cX7_copy 37 = .ok (.aload 6, 2) := by decide +kernel
theorem dX7_copy_39 : decode cX7_copy 39 = .ok (.getfield 251, 3) := by decide +kernel
theorem dX7_copy_42 : decode cX7_copy 42 = .ok (.ifCond .eq 11, 3) := by decide +kernel
theorem dX7_copy_45 : decode cX7_copy 45 = .ok (.aload 7, 2) := by decide +kernel
theorem dX7_copy_47 : decode cX7_copy 47 = .ok (.getfield 251, 3) := by decide +kernel
theorem dX7_copy_50 : decode cX7_copy 50 = .ok (.ifCond .ne 9, 3) := by decide +kernel
theorem dX7_copy_53 : decode cX7_copy 53 = .ok (.aload_n 0, 1) := by decide +kernel
theorem dX7_copy_54 : decode cX7_copy 54 = .ok (.iconst 1, 1) := by decide +kernel
theorem dX7_copy_55 : decode cX7_copy 55 = .ok (.invokevirtual 69, 3) := by decide +kernel
theorem dX7_copy_58 : decode cX7_copy 58 = .ok (.ireturn, 1) := by decide +kernel
theorem dX7_copy_59 : decode cX7_copy 59 = .ok (.aload 6, 2) := by decide +kernel
theorem dX7_copy_61 : decode cX7_copy 61 = .ok (.getfield 260, 3) := by decide +kernel
theorem dX7_copy_64 : decode cX7_copy 64 = .ok (.aload 7, 2) := by decide +kernel
theorem dX7_copy_66 : decode cX7_copy 66 = .ok (.getfield 260, 3) := by decide +kernel
theorem dX7_copy_69 : decode cX7_copy 69 = .ok (.if_icmp .eq 9, 3) := by decide +kernel
theorem dX7_copy_72 : decode cX7_copy 72 = .ok (.aload_n 0, 1) := by decide +kernel
theorem dX7_copy_73 : decode cX7_copy 73 = .ok (.iconst 2, 1) := by decide +kernel
theorem dX7_copy_74 : decode cX7_copy 74 = .ok (.invokevirtual 69, 3) := by decide +kernel
theorem dX7_copy_77 : decode cX7_copy 77 = .ok (.ireturn, 1) := by decide +kernel
theorem dX7_copy_78 : decode cX7_copy 78 = .ok (.aload 6, 2) := by decide +kernel
theorem dX7_copy_80 : decode cX7_copy 80 = .ok (.iload_n 2, 1) := by decide +kernel
theorem dX7_copy_81 : decode cX7_copy 81 = .ok (.iload 5, 2) := by decide +kernel
theorem dX7_copy_83 : decode cX7_copy 83 = .ok (.invokevirtual 65, 3) := by decide +kernel
theorem dX7_copy_86 : decode cX7_copy 86 = .ok (.ifCond .eq 15, 3) := by decide +kernel
theorem dX7_copy_89 : decode cX7_copy 89 = .ok (.aload 7, 2) := by decide +kernel
theorem dX7_copy_91 : decode cX7_copy 91 = .ok (.iload 4, 2) := by decide +kernel
theorem dX7_copy_93 : decode cX7_copy 93 = .ok (.iload 5, 2) := by decide +kernel
theorem dX7_copy_95 : decode cX7_copy 95 = .ok (.invokevirtual 65, 3) := by decide +kernel
theorem dX7_copy_98 : decode cX7_copy 98 = .ok (.ifCond .ne 9, 3) := by decide +kernel
theorem dX7_copy_101 : decode cX7_copy 101 = .ok (.aload_n 0, 1) := by decide +kernel
theorem dX7_copy_102 : decode cX7_copy 102 = .ok (.iconst 3, 1) := by decide +kernel
theorem dX7_copy_103 : decode cX7_copy 103 = .ok (.invokevirtual 69, 3) := by decide +kernel
theorem dX7_copy_106 : decode cX7_copy 106 = .ok (.ireturn, 1) := by decide +kernel
theorem dX7_copy_107 : decode cX7_copy 107 = .ok (.aload 6, 2) := by decide +kernel
theorem dX7_copy_109 : decode cX7_copy 109 = .ok (.getfield 254, 3) := by decide +kernel
theorem dX7_copy_112 : decode cX7_copy 112 = .ok (.iload_n 2, 1) := by decide +kernel
theorem dX7_copy_113 : decode cX7_copy 113 = .ok (.aload 7, 2) := by decide +kernel
theorem dX7_copy_115 : decode cX7_copy 115 = .ok (.getfield 254, 3) := by decide +kernel
theorem dX7_copy_118 : decode cX7_copy 118 = .ok (.iload 4, 2) := by decide +kernel
theorem dX7_copy_120 : decode cX7_copy 120 = .ok (.iload 5, 2) := by decide +kernel
theorem dX7_copy_122 : decode cX7_copy 122 = .ok (.invokestatic 263, 3) := by decide +kernel
theorem dX7_copy_125 : decode cX7_copy 125 = .ok (.iload 5, 2) := by decide +kernel
theorem dX7_copy_127 : decode cX7_copy 127 = .ok (.ireturn, 1) := by decide +kernel
set_option maxRecDepth 20000 in
theorem ggX7_tell_X6_hasCoat : GoodIn wsX7_tell wsX6_hasCoat := goodIn_r _ [8, 9, 36, 37, 38, 39, 40, 41, 42, 43, 44, 45, 46] (by decide +kernel) (by decide +kernel)
set_option maxRecDepth 20000 in
theorem gX7_tell_X6_hasCoat : GoodIn wsX7_tell (wsV RX7 143 RX6 yX6_hasCoat wsX6_hasCoat) := goodIn_app (goodIn_of _ (by decide +kernel)) ggX7_tell_X6_hasCoat
set_option maxRecDepth 20000 in
theorem ggX7_tell_X7_tellFast : GoodIn wsX7_tell wsX7_tellFast := goodIn_r _ [14, 15, 16, 17, 13, 18, 19, 20, 21, 22, 23, 24, 25, 26, 27, 28, 29, 30, 31, 32, 33, 34, 35, 47, 48] (by decide +kernel) (by decide +kernel)
set_option maxRecDepth 20000 in
theorem gX7_tell_X7_tellFast : GoodIn wsX7_tell (wsV RX7 269 RX7 yX7_tellFast wsX7_tellFast) := goodIn_app (goodIn_of _ (by decide +kernel)) ggX7_tell_X7_tellFast
set_option maxRecDepth 20000 in
theorem ggX7_tell_X7_tellShiny : GoodIn wsX7_tell wsX7_tellShiny := goodIn_r _ [23, 15, 16, 17, 13, 18, 19, 24, 25, 26, 27, 28, 29, 30, 31, 32, 33, 34, 35, 47, 48] (by decide +kernel) (by decide +kernel)
set_option maxRecDepth 20000 in
theorem gX7_tell_X7_tellShiny : GoodIn wsX7_tell (wsV RX7 273 RX7 yX7_tellShiny wsX7_tellShiny) := goodIn_app (goodIn_of _ (by decide +kernel)) ggX7_tell_X7_tellShiny
set_option maxRecDepth 20000 in
theorem ggX7_tell_X7_tellPlain : GoodIn wsX7_tell wsX7_tellPlain := goodIn_r _ [27, 28, 15, 16, 17, 13, 18, 19, 47, 48, 29, 30, 31, 32, 33, 34, 35] (by decide +kernel) (by decide +kernel)
set_option maxRecDepth 20000 in
theorem gX7_tell_X7_tellPlain : GoodIn wsX7_tell (wsV RX7 276 RX7 yX7_tellPlain wsX7_tellPlain) := goodIn_app (goodIn_of _ (by decide +kernel)) ggX7_tell_X7_tellPlain
theorem dX7_tell_0 : decode cX7_tell 0 = .ok (.aload_n 0, 1) := by decide +kernel
theorem dX7_tell_1 : decode cX7_tell 1 = .ok (.getfield 20, 3) := by decide +kernel
theorem dX7_tell_4 : decode cX7_tell 4 = .ok (.iload_n 1, 1) := by decide +kernel
theorem dX7_tell_5 : decode cX7_tell 5 = .ok (.invokevirtual 143, 3) := by decide +kernel
theorem dX7_tell_8 : decode cX7_tell 8 = .ok (.ifCond .ne 5, 3) := by decide +kernel
theorem dX7_tell_11 : decode cX7_tell 11 = .ok (.iconst (-1), 1) := by decide +kernel
theorem dX7_tell_12 : decode cX7_tell 12 = .ok (.ireturn, 1) := by decide +kernel
theorem dX7_tell_13 : decode cX7_tell 13 = .ok (.aload_n 0, 1) := by decide +kernel
theorem dX7_tell_14 : decode cX7_tell 14 = .ok (.getfield 20, 3) := by decide +kernel
theorem dX7_tell_17 : decode cX7_tell 17 = .ok (.getfield 146, 3) := by decide +kernel
theorem dX7_tell_20 : decode cX7_tell 20 = .ok (.iload_n 1, 1) := by decide +kernel
theorem dX7_tell_21 : decode cX7_tell 21 = .ok (.aaload, 1) := by decide +kernel
theorem dX7_tell_22 : decode cX7_tell 22 = .ok (.astore_n 2, 1) := by decide +kernel
theorem dX7_tell_23 : decode cX7_tell 23 = .ok (.aload_n 2, 1) := by decide +kernel
theorem dX7_tell_24 : decode cX7_tell 24 = .ok (.getfield 150, 3) := by decide +kernel
theorem dX7_tell_27 : decode cX7_tell 27 = .ok (.lookupswitch 37 #[(1, 31), (2, 25)], 25) := by decide +kernel
theorem dX7_tell_52 : decode cX7_tell 52 = .ok (.aload_n 0, 1) := by decide +kernel
theorem dX7_tell_53 : decode cX7_tell 53 = .ok (.aload_n 2, 1) := by decide +kernel
theorem dX7_tell_54 : decode cX7_tell 54 = .ok (.invokevirtual 269, 3) := by decide +kernel
theorem dX7_tell_57 : decode cX7_tell 57 = .ok (.ireturn, 1) := by decide +kernel
theorem dX7_tell_58 : decode cX7_tell 58 = .ok (.aload_n 0, 1) := by decide +kernel
theorem dX7_tell_59 : decode cX7_tell 59 = .ok (.aload_n 2, 1) := by decide +kernel
theorem dX7_tell_60 : decode cX7_tell 60 = .ok (.invokevirtual 273, 3) := by decide +kernel
theorem dX7_tell_63 : decode cX7_tell 63 = .ok (.ireturn, 1) := by decide +kernel
theorem dX7_tell_64 : decode cX7_tell 64 = .ok (.aload_n 0, 1) := by decide +kernel
theorem dX7_tell_65 : decode cX7_tell 65 = .ok (.aload_n 2, 1) := by decide +kernel
theorem dX7_tell_66 : decode cX7_tell 66 = .ok (.invokevirtual 276, 3) := by decide +kernel
theorem dX7_tell_69 : decode cX7_tell 69 = .ok (.ireturn, 1) := by decide +kernel
set_option maxRecDepth 20000 in
theorem ggX7_name_X6_hasCoat : GoodIn wsX7_name wsX6_hasCoat := goodIn_r _ [8, 9, 23, 24, 25, 26, 27, 28, 29, 30, 31, 32, 33] (by decide +kernel) (by decide +kernel)
set_option maxRecDepth 20000 in
theorem gX7_name_X6_hasCoat : GoodIn wsX7_name (wsV RX7 143 RX6 yX6_hasCoat wsX6_hasCoat) := goodIn_app (goodIn_of _ (by decide +kernel)) ggX7_name_X6_hasCoat
set_option maxRecDepth 20000 in
theorem ggX7_name_X7_mark : GoodIn wsX7_name wsX7_mark := goodIn_r _ [14, 15, 16, 17, 18, 19, 20, 21, 22] (by decide +kernel) (by decide +kernel)
set_option maxRecDepth 20000 in
theorem gX7_name_X7_mark : GoodIn wsX7_name (wsV RX7 279 RX7 yX7_mark wsX7_mark) := goodIn_app (goodIn_of _ (by decide +kernel)) ggX7_name_X7_mark
theorem dX7_name_0 : decode cX7_name 0 = .ok (.aload_n 0, 1) := by decide +kernel
theorem dX7_name_1 : decode cX7_name 1 = .ok (.getfield 20, 3) := by decide +kernel
theorem dX7_name_4 : decode cX7_name 4 = .ok (.iload_n 1, 1) := by decide +kernel
theorem dX7_name_5 : decode cX7_name 5 = .ok (.invokevirtual 143, 3) := by decide +kernel
theorem dX7_name_8 : decode cX7_name 8 = .ok (.ifCond .ne 5, 3) := by decide +kernel
theorem dX7_name_11 : decode cX7_name 11 = .ok (.iconst (-1), 1) := by decide +kernel
theorem dX7_name_12 : decode cX7_name 12 = .ok (.ireturn, 1) := by decide +kernel
theorem dX7_name_13 : decode cX7_name 13 = .ok (.aload_n 0, 1) := by decide +kernel
theorem dX7_name_14 : decode cX7_name 14 = .ok (.getfield 20, 3) := by decide +kernel
theorem dX7_name_17 : decode cX7_name 17 = .ok (.getfield 146, 3) := by decide +kernel
theorem dX7_name_20 : decode cX7_name 20 = .ok (.iload_n 1, 1) := by decide +kernel
theorem dX7_name_21 : decode cX7_name 21 = .ok (.aaload, 1) := by decide +kernel
theorem dX7_name_22 : decode cX7_name 22 = .ok (.getfield 150, 3) := by decide +kernel
theorem dX7_name_25 : decode cX7_name 25 = .ok (.iconst 2, 1) := by decide +kernel
theorem dX7_name_26 : decode cX7_name 26 = .ok (.if_icmp .ne 11, 3) := by decide +kernel
theorem dX7_name_29 : decode cX7_name 29 = .ok (.aload_n 0, 1) := by decide +kernel
theorem dX7_name_30 : decode cX7_name 30 = .ok (.iconst 5, 1) := by decide +kernel
theorem dX7_name_31 : decode cX7_name 31 = .ok (.invokevirtual 279, 3) := by decide +kernel
theorem dX7_name_34 : decode cX7_name 34 = .ok (.bipush 90, 2) := by decide +kernel
theorem dX7_name_36 : decode cX7_name 36 = .ok (.ireturn, 1) := by decide +kernel
theorem dX7_name_37 : decode cX7_name 37 = .ok (.aload_n 0, 1) := by decide +kernel
theorem dX7_name_38 : decode cX7_name 38 = .ok (.iconst 4, 1) := by decide +kernel
theorem dX7_name_39 : decode cX7_name 39 = .ok (.invokevirtual 279, 3) := by decide +kernel
theorem dX7_name_42 : decode cX7_name 42 = .ok (.iload_n 1, 1) := by decide +kernel
theorem dX7_name_43 : decode cX7_name 43 = .ok (.ireturn, 1) := by decide +kernel
set_option maxRecDepth 20000 in
theorem ggX7_as_X6_hasCoat : GoodIn wsX7_as wsX6_hasCoat := goodIn_r _ [9, 10, 29, 30, 31, 32, 33, 34, 35, 36, 37, 38, 39] (by decide +kernel) (by decide +kernel)
set_option maxRecDepth 20000 in
theorem gX7_as_X6_hasCoat : GoodIn wsX7_as (wsV RX7 143 RX6 yX6_hasCoat wsX6_hasCoat) := goodIn_app (goodIn_of _ (by decide +kernel)) ggX7_as_X6_hasCoat
set_option maxRecDepth 20000 in
theorem ggX7_as_X7_isKind : GoodIn wsX7_as wsX7_isKind := goodIn_r _ [14, 15, 16, 13, 17] (by decide +kernel) (by decide +kernel)
set_option maxRecDepth 20000 in
theorem gX7_as_X7_isKind : GoodIn wsX7_as (va_wsS RX7 129 yX7_isKind wsX7_isKind) := goodIn_app (goodIn_of _ (by decide +kernel)) ggX7_as_X7_isKind
set_option maxRecDepth 20000 in
theorem ggX7_as_X7_failed : GoodIn wsX7_as wsX7_failed := goodIn_r _ [21, 1, 22, 23, 24, 25, 26, 27, 28] (by decide +kernel) (by decide +kernel)
set_option maxRecDepth 20000 in
theorem gX7_as_X7_failed : GoodIn wsX7_as (wsV RX7 69 RX7 yX7_failed wsX7_failed) := goodIn_app (goodIn_of _ (by decide +kernel)) ggX7_as_X7_failed
theorem dX7_as_0 : decode cX7_as 0 = .ok (.aload_n 0, 1) := by decide +kernel
theorem dX7_as_1 : decode cX7_as 1 = .ok (.iconst 0, 1) := by decide +kernel
theorem dX7_as_2 : decode cX7_as 2 = .ok (.putfield 50, 3) := by decide +kernel
theorem dX7_as_5 : decode cX7_as 5 = .ok (.aload_n 0, 1) := by decide +kernel
theorem dX7_as_6 : decode cX7_as 6 = .ok (.getfield 20, 3) := by decide +kernel
theorem dX7_as_9 : decode cX7_as 9 = .ok (.iload_n 1, 1) := by decide +kernel
theorem dX7_as_10 : decode cX7_as 10 = .ok (.invokevirtual 143, 3) := by decide +kernel
theorem dX7_as_13 : decode cX7_as 13 = .ok (.ifCond .ne 5, 3) := by decide +kernel
theorem dX7_as_16 : decode cX7_as 16 = .ok (.iconst (-1), 1) := by decide +kernel
theorem dX7_as_17 : decode cX7_as 17 = .ok (.ireturn, 1) := by decide +kernel
theorem dX7_as_18 : decode cX7_as 18 = .ok (.iload_n 2, 1) := by decide +kernel
theorem dX7_as_19 : decode cX7_as 19 = .ok (.invokestatic 129, 3) := by decide +kernel
theorem dX7_as_22 : decode cX7_as 22 = .ok (.ifCond .ne 6, 3) := by decide +kernel
theorem dX7_as_25 : decode cX7_as 25 = .ok (.bipush (-2), 2) := by decide +kernel
theorem dX7_as_27 : decode cX7_as 27 = .ok (.ireturn, 1) := by decide +kernel
theorem dX7_as_28 : decode cX7_as 28 = .ok (.aload_n 0, 1) := by decide +kernel
theorem dX7_as_29 : decode cX7_as 29 = .ok (.getfield 20, 3) := by decide +kernel
theorem dX7_as_32 : decode cX7_as 32 = .ok (.getfield 146, 3) := by decide +kernel
theorem dX7_as_35 : decode cX7_as 35 = .ok (.iload_n 1, 1) := by decide +kernel
theorem dX7_as_36 : decode cX7_as 36 = .ok (.aaload, 1) := by decide +kernel
theorem dX7_as_37 : decode cX7_as 37 = .ok (.getfield 150, 3) := by decide +kernel
theorem dX7_as_40 : decode cX7_as 40 = .ok (.iload_n 2, 1) := by decide +kernel
theorem dX7_as_41 : decode cX7_as 41 = .ok (.if_icmp .ge 11, 3) := by decide +kernel
theorem dX7_as_44 : decode cX7_as 44 = .ok (.aload_n 0, 1) := by decide +kernel
theorem dX7_as_45 : decode cX7_as 45 = .ok (.iconst 2, 1) := by decide +kernel
theorem dX7_as_46 : decode cX7_as 46 = .ok (.invokevirtual 69, 3) := by decide +kernel
theorem dX7_as_49 : decode cX7_as 49 = .ok (.goto 4, 3) := by decide +kernel
theorem dX7_as_52 : decode cX7_as 52 = .ok (.iconst 1, 1) := by decide +kernel
theorem dX7_as_53 : decode cX7_as 53 = .ok (.ireturn, 1) := by decide +kernel
theorem dX7_trace_0 : decode cX7_trace 0 = .ok (.aload_n 0, 1) := by decide +kernel
theorem dX7_trace_1 : decode cX7_trace 1 = .ok (.getfield 282, 3) := by decide +kernel
theorem dX7_trace_4 : decode cX7_trace 4 = .ok (.ireturn, 1) := by decide +kernel
theorem dX7_fault_0 : decode cX7_fault 0 = .ok (.aload_n 0, 1) := by decide +kernel
theorem dX7_fault_1 : decode cX7_fault 1 = .ok (.getfield 50, 3) := by decide +kernel
theorem dX7_fault_4 : decode cX7_fault 4 = .ok (.ireturn, 1) := by decide +kernel
theorem dX7_many_0 : decode cX7_many 0 = .ok (.iload_n 1, 1) := by decide +kernel
theorem dX7_many_1 : decode cX7_many 1 = .ok (.tableswitch 99 0 6 #[43, 51, 59, 67, 75, 83, 91], 43) := by decide +kernel
theorem dX7_many_44 : decode cX7_many 44 = .ok (.aload_n 0, 1) := by decide +kernel
theorem dX7_many_45 : decode cX7_many 45 = .ok (.getfield 20, 3) := by decide +kernel
theorem dX7_many_48 : decode cX7_many 48 = .ok (.getfield 80, 3) := by decide +kernel
theorem dX7_many_51 : decode cX7_many 51 = .ok (.ireturn, 1) := by decide +kernel
theorem dX7_many_52 : decode cX7_many 52 = .ok (.aload_n 0, 1) := by decide +kernel
theorem dX7_many_53 : decode cX7_many 53 = .ok (.getfield 20, 3) := by decide +kernel
theorem dX7_many_56 : decode cX7_many 56 = .ok (.getfield 285, 3) := by decide +kernel
theorem dX7_many_59 : decode cX7_many 59 = .ok (.ireturn, 1) := by decide +kernel
theorem dX7_many_60 : decode cX7_many 60 = .ok (.aload_n 0, 1) := by decide +kernel
theorem dX7_many_61 : decode cX7_many 61 = .ok (.getfield 20, 3) := by decide +kernel
theorem dX7_many_64 : decode cX7_many 64 = .ok (.getfield 136, 3) := by decide +kernel
theorem dX7_many_67 : decode cX7_many 67 = .ok (.ireturn, 1) := by decide +kernel
theorem dX7_many_68 : decode cX7_many 68 = .ok (.aload_n 0, 1) := by decide +kernel
theorem dX7_many_69 : decode cX7_many 69 = .ok (.getfield 20, 3) := by decide +kernel
theorem dX7_many_72 : decode cX7_many 72 = .ok (.getfield 166, 3) := by decide +kernel
theorem dX7_many_75 : decode cX7_many 75 = .ok (.ireturn, 1) := by decide +kernel
theorem dX7_many_76 : decode cX7_many 76 = .ok (.aload_n 0, 1) := by decide +kernel
theorem dX7_many_77 : decode cX7_many 77 = .ok (.getfield 20, 3) := by decide +kernel
theorem dX7_many_80 : decode cX7_many 80 = .ok (.getfield 122, 3) := by decide +kernel
theorem dX7_many_83 : decode cX7_many 83 = .ok (.ireturn, 1) := by decide +kernel
theorem dX7_many_84 : decode cX7_many 84 = .ok (.aload_n 0, 1) := by decide +kernel
theorem dX7_many_85 : decode cX7_many 85 = .ok (.getfield 20, 3) := by decide +kernel
theorem dX7_many_88 : decode cX7_many 88 = .ok (.getfield 116, 3) := by decide +kernel
theorem dX7_many_91 : decode cX7_many 91 = .ok (.ireturn, 1) := by decide +kernel
theorem dX7_many_92 : decode cX7_many 92 = .ok (.aload_n 0, 1) := by decide +kernel
theorem dX7_many_93 : decode cX7_many 93 = .ok (.getfield 20, 3) := by decide +kernel
theorem dX7_many_96 : decode cX7_many 96 = .ok (.getfield 119, 3) := by decide +kernel
theorem dX7_many_99 : decode cX7_many 99 = .ok (.ireturn, 1) := by decide +kernel
theorem dX7_many_100 : decode cX7_many 100 = .ok (.bipush (-2), 2) := by decide +kernel
theorem dX7_many_102 : decode cX7_many 102 = .ok (.ireturn, 1) := by decide +kernel
theorem dX7_isWithin_0 : decode cX7_isWithin 0 = .ok (.iload_n 0, 1) := by decide +kernel
theorem dX7_isWithin_1 : decode cX7_isWithin 1 = .ok (.iload_n 1, 1) := by decide +kernel
theorem dX7_isWithin_2 : decode cX7_isWithin 2 = .ok (.if_icmp .lt 12, 3) := by decide +kernel
theorem dX7_isWithin_5 : decode cX7_isWithin 5 = .ok (.iload_n 0, 1) := by decide +kernel
theorem dX7_isWithin_6 : decode cX7_isWithin 6 = .ok (.iload_n 2, 1) := by decide +kernel
theorem dX7_isWithin_7 : decode cX7_isWithin 7 = .ok (.if_icmp .gt 7, 3) := by decide +kernel
theorem dX7_isWithin_10 : decode cX7_isWithin 10 = .ok (.iconst 1, 1) := by decide +kernel
theorem dX7_isWithin_11 : decode cX7_isWithin 11 = .ok (.goto 4, 3) := by decide +kernel
theorem dX7_isWithin_14 : decode cX7_isWithin 14 = .ok (.iconst 0, 1) := by decide +kernel
theorem dX7_isWithin_15 : decode cX7_isWithin 15 = .ok (.ireturn, 1) := by decide +kernel
set_option maxRecDepth 20000 in
theorem ggX7_areWithin_X7_isWithin : GoodIn wsX7_areWithin wsX7_isWithin := goodIn_r _ [4] (by decide +kernel) (by decide +kernel)
set_option maxRecDepth 20000 in
theorem gX7_areWithin_X7_isWithin : GoodIn wsX7_areWithin (va_wsS RX7 108 yX7_isWithin wsX7_isWithin) := goodIn_app (goodIn_of _ (by decide +kernel)) ggX7_areWithin_X7_isWithin
theorem dX7_areWithin_0 : decode cX7_areWithin 0 = .ok (.iload_n 0, 1) := by decide +kernel
theorem dX7_areWithin_1 : decode cX7_areWithin 1 = .ok (.iconst 0, 1) := by decide +kernel
theorem dX7_areWithin_2 : decode cX7_areWithin 2 = .ok (.iload_n 3, 1) := by decide +kernel
theorem dX7_areWithin_3 : decode cX7_areWithin 3 = .ok (.invokestatic 108, 3) := by decide +kernel
theorem dX7_areWithin_6 : decode cX7_areWithin 6 = .ok (.ifCond .eq 25, 3) := by decide +kernel
theorem dX7_areWithin_9 : decode cX7_areWithin 9 = .ok (.iload_n 1, 1) := by decide +kernel
theorem dX7_areWithin_10 : decode cX7_areWithin 10 = .ok (.iconst 0, 1) := by decide +kernel
theorem dX7_areWithin_11 : decode cX7_areWithin 11 = .ok (.iload_n 3, 1) := by decide +kernel
theorem dX7_areWithin_12 : decode cX7_areWithin 12 = .ok (.invokestatic 108, 3) := by decide +kernel
theorem dX7_areWithin_15 : decode cX7_areWithin 15 = .ok (.ifCond .eq 16, 3) := by decide +kernel
theorem dX7_areWithin_18 : decode cX7_areWithin 18 = .ok (.iload_n 2, 1) := by decide +kernel
theorem dX7_areWithin_19 : decode cX7_areWithin 19 = .ok (.iconst 0, 1) := by decide +kernel
theorem dX7_areWithin_20 : decode cX7_areWithin 20 = .ok (.iload_n 3, 1) := by decide +kernel
theorem dX7_areWithin_21 : decode cX7_areWithin 21 = .ok (.invokestatic 108, 3) := by decide +kernel
theorem dX7_areWithin_24 : decode cX7_areWithin 24 = .ok (.ifCond .eq 7, 3) := by decide +kernel
theorem dX7_areWithin_27 : decode cX7_areWithin 27 = .ok (.iconst 1, 1) := by decide +kernel
theorem dX7_areWithin_28 : decode cX7_areWithin 28 = .ok (.goto 4, 3) := by decide +kernel
theorem dX7_areWithin_31 : decode cX7_areWithin 31 = .ok (.iconst 0, 1) := by decide +kernel
theorem dX7_areWithin_32 : decode cX7_areWithin 32 = .ok (.ireturn, 1) := by decide +kernel
set_option maxRecDepth 20000 in
theorem ggX7_isSheet_X7_isWithin : GoodIn wsX7_isSheet wsX7_isWithin := goodIn_r _ [4] (by decide +kernel) (by decide +kernel)
set_option maxRecDepth 20000 in
theorem gX7_isSheet_X7_isWithin : GoodIn wsX7_isSheet (va_wsS RX7 108 yX7_isWithin wsX7_isWithin) := goodIn_app (goodIn_of _ (by decide +kernel)) ggX7_isSheet_X7_isWithin
theorem dX7_isSheet_0 : decode cX7_isSheet 0 = .ok (.iload_n 0, 1) := by decide +kernel
theorem dX7_isSheet_1 : decode cX7_isSheet 1 = .ok (.iconst 0, 1) := by decide +kernel
theorem dX7_isSheet_2 : decode cX7_isSheet 2 = .ok (.iconst 3, 1) := by decide +kernel
theorem dX7_isSheet_3 : decode cX7_isSheet 3 = .ok (.invokestatic 108, 3) := by decide +kernel
theorem dX7_isSheet_6 : decode cX7_isSheet 6 = .ok (.ireturn, 1) := by decide +kernel
set_option maxRecDepth 20000 in
theorem ggX7_isSort_X7_isWithin : GoodIn wsX7_isSort wsX7_isWithin := goodIn_r _ [4] (by decide +kernel) (by decide +kernel)
set_option maxRecDepth 20000 in
theorem gX7_isSort_X7_isWithin : GoodIn wsX7_isSort (va_wsS RX7 108 yX7_isWithin wsX7_isWithin) := goodIn_app (goodIn_of _ (by decide +kernel)) ggX7_isSort_X7_isWithin
theorem dX7_isSort_0 : decode cX7_isSort 0 = .ok (.iload_n 0, 1) := by decide +kernel
theorem dX7_isSort_1 : decode cX7_isSort 1 = .ok (.iconst 0, 1) := by decide +kernel
theorem dX7_isSort_2 : decode cX7_isSort 2 = .ok (.iconst 2, 1) := by decide +kernel
theorem dX7_isSort_3 : decode cX7_isSort 3 = .ok (.invokestatic 108, 3) := by decide +kernel
theorem dX7_isSort_6 : decode cX7_isSort 6 = .ok (.ireturn, 1) := by decide +kernel
set_option maxRecDepth 20000 in
theorem ggX7_isKind_X7_isWithin : GoodIn wsX7_isKind wsX7_isWithin := goodIn_r _ [4] (by decide +kernel) (by decide +kernel)
set_option maxRecDepth 20000 in
theorem gX7_isKind_X7_isWithin : GoodIn wsX7_isKind (va_wsS RX7 108 yX7_isWithin wsX7_isWithin) := goodIn_app (goodIn_of _ (by decide +kernel)) ggX7_isKind_X7_isWithin
theorem dX7_isKind_0 : decode cX7_isKind 0 = .ok (.iload_n 0, 1) := by decide +kernel
theorem dX7_isKind_1 : decode cX7_isKind 1 = .ok (.iconst 0, 1) := by decide +kernel
theorem dX7_isKind_2 : decode cX7_isKind 2 = .ok (.iconst 2, 1) := by decide +kernel
theorem dX7_isKind_3 : decode cX7_isKind 3 = .ok (.invokestatic 108, 3) := by decide +kernel
theorem dX7_isKind_6 : decode cX7_isKind 6 = .ok (.ireturn, 1) := by decide +kernel
theorem dX7_failed_0 : decode cX7_failed 0 = .ok (.aload_n 0, 1) := by decide +kernel
theorem dX7_failed_1 : decode cX7_failed 1 = .ok (.iload_n 1, 1) := by decide +kernel
theorem dX7_failed_2 : decode cX7_failed 2 = .ok (.putfield 50, 3) := by decide +kernel
theorem dX7_failed_5 : decode cX7_failed 5 = .ok (.bipush (-10), 2) := by decide +kernel
theorem dX7_failed_7 : decode cX7_failed 7 = .ok (.iload_n 1, 1) := by decide +kernel
theorem dX7_failed_8 : decode cX7_failed 8 = .ok (.isub, 1) := by decide +kernel
theorem dX7_failed_9 : decode cX7_failed 9 = .ok (.ireturn, 1) := by decide +kernel
set_option maxRecDepth 20000 in
theorem ggX7_isAsTold_X1_comesBack : GoodIn wsX7_isAsTold wsX1_comesBack := goodIn_r _ [10, 11, 12, 13, 14, 15, 16, 17, 18, 19, 9, 20, 43, 44] (by decide +kernel) (by decide +kernel)
set_option maxRecDepth 20000 in
theorem gX7_isAsTold_X1_comesBack : GoodIn wsX7_isAsTold (wsV RX7 162 RX1 yX1_comesBack wsX1_comesBack) := goodIn_app (goodIn_of _ (by decide +kernel)) ggX7_isAsTold_X1_comesBack
theorem dX7_isAsTold_0 : decode cX7_isAsTold 0 = .ok (.aload_n 0, 1) := by decide +kernel
theorem dX7_isAsTold_1 : decode cX7_isAsTold 1 = .ok (.getfield 13, 3) := by decide +kernel
theorem dX7_isAsTold_4 : decode cX7_isAsTold 4 = .ok (.iload 4, 2) := by decide +kernel
theorem dX7_isAsTold_6 : decode cX7_isAsTold 6 = .ok (.aaload, 1) := by decide +kernel
theorem dX7_isAsTold_7 : decode cX7_isAsTold 7 = .ok (.getfield 254, 3) := by decide +kernel
theorem dX7_isAsTold_10 : decode cX7_isAsTold 10 = .ok (.astore 6, 2) := by decide +kernel
theorem dX7_isAsTold_12 : decode cX7_isAsTold 12 = .ok (.iconst 0, 1) := by decide +kernel
theorem dX7_isAsTold_13 : decode cX7_isAsTold 13 = .ok (.istore 7, 2) := by decide +kernel
theorem dX7_isAsTold_15 : decode cX7_isAsTold 15 = .ok (.iload 7, 2) := by decide +kernel
theorem dX7_isAsTold_17 : decode cX7_isAsTold 17 = .ok (.iconst 3, 1) := by decide +kernel
theorem dX7_isAsTold_18 : decode cX7_isAsTold 18 = .ok (.if_icmp .ge 48, 3) := by decide +kernel
theorem dX7_isAsTold_21 : decode cX7_isAsTold 21 = .ok (.aload_n 0, 1) := by decide +kernel
theorem dX7_isAsTold_22 : decode cX7_isAsTold 22 = .ok (.getfield 20, 3) := by decide +kernel
theorem dX7_isAsTold_25 : decode cX7_isAsTold 25 = .ok (.getfield 146, 3) := by decide +kernel
theorem dX7_isAsTold_28 : decode cX7_isAsTold 28 = .ok (.iload_n 1, 1) := by decide +kernel
theorem dX7_isAsTold_29 : decode cX7_isAsTold 29 = .ok (.aaload, 1) := by decide +kernel
theorem dX7_isAsTold_30 : decode cX7_isAsTold 30 = .ok (.iload 7, 2) := by decide +kernel
theorem dX7_isAsTold_32 : decode cX7_isAsTold 32 = .ok (.iload_n 2, 1) := by decide +kernel
theorem dX7_isAsTold_33 : decode cX7_isAsTold 33 = .ok (.iload_n 3, 1) := by decide +kernel
theorem dX7_isAsTold_34 : decode cX7_isAsTold 34 = .ok (.imul, 1) := by decide +kernel
theorem dX7_isAsTold_35 : decode cX7_isAsTold 35 = .ok (.iload_n 3, 1) := by decide +kernel
theorem dX7_isAsTold_36 : decode cX7_isAsTold 36 = .ok (.aload_n 0, 1) := by decide +kernel
theorem dX7_isAsTold_37 : decode cX7_isAsTold 37 = .ok (.getfield 20, 3) := by decide +kernel
theorem dX7_isAsTold_40 : decode cX7_isAsTold 40 = .ok (.getfield 116, 3) := by decide +kernel
theorem dX7_isAsTold_43 : decode cX7_isAsTold 43 = .ok (.iconst 0, 1) := by decide +kernel
theorem dX7_isAsTold_44 : decode cX7_isAsTold 44 = .ok (.invokevirtual 162, 3) := by decide +kernel
theorem dX7_isAsTold_47 : decode cX7_isAsTold 47 = .ok (.aload 6, 2) := by decide +kernel
theorem dX7_isAsTold_49 : decode cX7_isAsTold 49 = .ok (.iload 5, 2) := by decide +kernel
theorem dX7_isAsTold_51 : decode cX7_isAsTold 51 = .ok (.iload 7, 2) := by decide +kernel
theorem dX7_isAsTold_53 : decode cX7_isAsTold 53 = .ok (.iadd, 1) := by decide +kernel
theorem dX7_isAsTold_54 : decode cX7_isAsTold 54 = .ok (.iaload, 1) := by decide +kernel
theorem dX7_isAsTold_55 : decode cX7_isAsTold 55 = .ok (.if_icmp .eq 5, 3) := by decide +kernel
theorem dX7_isAsTold_58 : decode cX7_isAsTold 58 = .ok (.iconst 0, 1) := by decide +kernel
theorem dX7_isAsTold_59 : decode cX7_isAsTold 59 = .ok (.ireturn, 1) := by decide +kernel
theorem dX7_isAsTold_60 : decode cX7_isAsTold 60 = .ok (.iinc 7 1, 3) := by decide +kernel
theorem dX7_isAsTold_63 : decode cX7_isAsTold 63 = .ok (.goto (-48), 3) := by decide +kernel
theorem dX7_isAsTold_66 : decode cX7_isAsTold 66 = .ok (.iconst 1, 1) := by decide +kernel
theorem dX7_isAsTold_67 : decode cX7_isAsTold 67 = .ok (.ireturn, 1) := by decide +kernel
theorem dX7_mark_0 : decode cX7_mark 0 = .ok (.aload_n 0, 1) := by decide +kernel
theorem dX7_mark_1 : decode cX7_mark 1 = .ok (.bipush 31, 2) := by decide +kernel
theorem dX7_mark_3 : decode cX7_mark 3 = .ok (.aload_n 0, 1) := by decide +kernel
theorem dX7_mark_4 : decode cX7_mark 4 = .ok (.getfield 282, 3) := by decide +kernel
theorem dX7_mark_7 : decode cX7_mark 7 = .ok (.imul, 1) := by decide +kernel
theorem dX7_mark_8 : decode cX7_mark 8 = .ok (.iload_n 1, 1) := by decide +kernel
theorem dX7_mark_9 : decode cX7_mark 9 = .ok (.iadd, 1) := by decide +kernel
theorem dX7_mark_10 : decode cX7_mark 10 = .ok (.putfield 282, 3) := by decide +kernel
theorem dX7_mark_13 : decode cX7_mark 13 = .ok (.return_, 1) := by decide +kernel
set_option maxRecDepth 20000 in
theorem ggX7_tellPlain_X7_mark : GoodIn wsX7_tellPlain wsX7_mark := goodIn_r _ [6, 7, 10, 11, 12, 13, 14, 15, 16] (by decide +kernel) (by decide +kernel)
set_option maxRecDepth 20000 in
theorem gX7_tellPlain_X7_mark : GoodIn wsX7_tellPlain (wsV RX7 279 RX7 yX7_mark wsX7_mark) := goodIn_app (goodIn_of _ (by decide +kernel)) ggX7_tellPlain_X7_mark
theorem dX7_tellPlain_0 : decode cX7_tellPlain 0 = .ok (.aload_n 0, 1) := by decide +kernel
theorem dX7_tellPlain_1 : decode cX7_tellPlain 1 = .ok (.iconst 1, 1) := by decide +kernel
theorem dX7_tellPlain_2 : decode cX7_tellPlain 2 = .ok (.invokevirtual 279, 3) := by decide +kernel
theorem dX7_tellPlain_5 : decode cX7_tellPlain 5 = .ok (.aload_n 1, 1) := by decide +kernel
theorem dX7_tellPlain_6 : decode cX7_tellPlain 6 = .ok (.getfield 155, 3) := by decide +kernel
theorem dX7_tellPlain_9 : decode cX7_tellPlain 9 = .ok (.iconst 0, 1) := by decide +kernel
theorem dX7_tellPlain_10 : decode cX7_tellPlain 10 = .ok (.iaload, 1) := by decide +kernel
theorem dX7_tellPlain_11 : decode cX7_tellPlain 11 = .ok (.ireturn, 1) := by decide +kernel
set_option maxRecDepth 20000 in
theorem ggX7_tellShiny_X7_mark : GoodIn wsX7_tellShiny wsX7_mark := goodIn_r _ [5, 6, 12, 13, 14, 15, 16, 17, 18] (by decide +kernel) (by decide +kernel)
set_option maxRecDepth 20000 in
theorem gX7_tellShiny_X7_mark : GoodIn wsX7_tellShiny (wsV RX7 279 RX7 yX7_mark wsX7_mark) := goodIn_app (goodIn_of _ (by decide +kernel)) ggX7_tellShiny_X7_mark
set_option maxRecDepth 20000 in
theorem ggX7_tellShiny_X7_tellPlain : GoodIn wsX7_tellShiny wsX7_tellPlain := goodIn_r _ [10, 11, 1, 2, 3, 4, 5, 6, 19, 20, 12, 13, 14, 15, 16, 17, 18] (by decide +kernel) (by decide +kernel)
set_option maxRecDepth 20000 in
theorem gX7_tellShiny_X7_tellPlain : GoodIn wsX7_tellShiny (wsV RX7 276 RX7 yX7_tellPlain wsX7_tellPlain) := goodIn_app (goodIn_of _ (by decide +kernel)) ggX7_tellShiny_X7_tellPlain
theorem dX7_tellShiny_0 : decode cX7_tellShiny 0 = .ok (.aload_n 0, 1) := by decide +kernel
theorem dX7_tellShiny_1 : decode cX7_tellShiny 1 = .ok (.iconst 2, 1) := by decide +kernel
theorem dX7_tellShiny_2 : decode cX7_tellShiny 2 = .ok (.invokevirtual 279, 3) := by decide +kernel
theorem dX7_tellShiny_5 : decode cX7_tellShiny 5 = .ok (.aload_n 0, 1) := by decide +kernel
theorem dX7_tellShiny_6 : decode cX7_tellShiny 6 = .ok (.aload_n 1, 1) := by decide +kernel
theorem dX7_tellShiny_7 : decode cX7_tellShiny 7 = .ok (.invokevirtual 276, 3) := by decide +kernel
theorem dX7_tellShiny_10 : decode cX7_tellShiny 10 = .ok (.bipush 100, 2) := by decide +kernel
theorem dX7_tellShiny_12 : decode cX7_tellShiny 12 = .ok (.iadd, 1) := by decide +kernel
theorem dX7_tellShiny_13 : decode cX7_tellShiny 13 = .ok (.ireturn, 1) := by decide +kernel
set_option maxRecDepth 20000 in
theorem ggX7_tellFast_X7_mark : GoodIn wsX7_tellFast wsX7_mark := goodIn_r _ [5, 6, 16, 17, 18, 19, 20, 21, 22] (by decide +kernel) (by decide +kernel)
set_option maxRecDepth 20000 in
theorem gX7_tellFast_X7_mark : GoodIn wsX7_tellFast (wsV RX7 279 RX7 yX7_mark wsX7_mark) := goodIn_app (goodIn_of _ (by decide +kernel)) ggX7_tellFast_X7_mark
set_option maxRecDepth 20000 in
theorem ggX7_tellFast_X7_tellShiny : GoodIn wsX7_tellFast wsX7_tellShiny := goodIn_r _ [10, 1, 2, 3, 4, 5, 6, 11, 12, 13, 14, 15, 16, 17, 18, 19, 20, 21, 22, 23, 24] (by decide +kernel) (by decide +kernel)
set_option maxRecDepth 20000 in
theorem gX7_tellFast_X7_tellShiny : GoodIn wsX7_tellFast (wsV RX7 273 RX7 yX7_tellShiny wsX7_tellShiny) := goodIn_app (goodIn_of _ (by decide +kernel)) ggX7_tellFast_X7_tellShiny
set_option maxRecDepth 20000 in
theorem ggX7_tellFast_X7_tellPlain : GoodIn wsX7_tellFast wsX7_tellPlain := goodIn_r _ [14, 15, 1, 2, 3, 4, 5, 6, 23, 24, 16, 17, 18, 19, 20, 21, 22] (by decide +kernel) (by decide +kernel)
set_option maxRecDepth 20000 in
theorem gX7_tellFast_X7_tellPlain : GoodIn wsX7_tellFast (wsV RX7 276 RX7 yX7_tellPlain wsX7_tellPlain) := goodIn_app (goodIn_of _ (by decide +kernel)) ggX7_tellFast_X7_tellPlain
theorem dX7_tellFast_0 : decode cX7_tellFast 0 = .ok (.aload_n 0, 1) := by decide +kernel
theorem dX7_tellFast_1 : decode cX7_tellFast 1 = .ok (.iconst 3, 1) := by decide +kernel
theorem dX7_tellFast_2 : decode cX7_tellFast 2 = .ok (.invokevirtual 279, 3) := by decide +kernel
theorem dX7_tellFast_5 : decode cX7_tellFast 5 = .ok (.aload_n 0, 1) := by decide +kernel
theorem dX7_tellFast_6 : decode cX7_tellFast 6 = .ok (.aload_n 1, 1) := by decide +kernel
theorem dX7_tellFast_7 : decode cX7_tellFast 7 = .ok (.invokevirtual 273, 3) := by decide +kernel
theorem dX7_tellFast_10 : decode cX7_tellFast 10 = .ok (.istore_n 2, 1) := by decide +kernel
theorem dX7_tellFast_11 : decode cX7_tellFast 11 = .ok (.iload_n 2, 1) := by decide +kernel
theorem dX7_tellFast_12 : decode cX7_tellFast 12 = .ok (.aload_n 0, 1) := by decide +kernel
theorem dX7_tellFast_13 : decode cX7_tellFast 13 = .ok (.aload_n 1, 1) := by decide +kernel
theorem dX7_tellFast_14 : decode cX7_tellFast 14 = .ok (.invokevirtual 276, 3) := by decide +kernel
theorem dX7_tellFast_17 : decode cX7_tellFast 17 = .ok (.iadd, 1) := by decide +kernel
theorem dX7_tellFast_18 : decode cX7_tellFast 18 = .ok (.ireturn, 1) := by decide +kernel
end
section
theorem dX8_init_0 : decode cX8_init 0 = .ok (.aload_n 0, 1) := by decide +kernel
theorem dX8_init_1 : decode cX8_init 1 = .ok (.invokespecial 1, 3) := by decide +kernel
theorem dX8_init_4 : decode cX8_init 4 = .ok (.aload_n 0, 1) := by decide +kernel
theorem dX8_init_5 : decode cX8_init 5 = .ok (.iconst 4, 1) := by decide +kernel
theorem dX8_init_6 : decode cX8_init 6 = .ok (.newarray .int, 2) := by decide +kernel
theorem dX8_init_8 : decode cX8_init 8 = .ok (.dup, 1) := by decide +kernel
theorem dX8_init_9 : decode cX8_init 9 = .ok (.iconst 0, 1) := by decide +kernel
theorem dX8_init_10 : decode cX8_init 10 = .ok (.bipush (-9), 2) := by decide +kernel
theorem dX8_init_12 : decode cX8_init 12 = .ok (.iastore, 1) := by decide +kernel
theorem dX8_init_13 : decode cX8_init 13 = .ok (.dup, 1) := by decide +kernel
theorem dX8_init_14 : decode cX8_init 14 = .ok (.iconst 1, 1) := by decide +kernel
theorem dX8_init_15 : decode cX8_init 15 = .ok (.bipush (-9), 2) := by decide +kernel
theorem dX8_init_17 : decode cX8_init 17 = .ok (.iastore, 1) := by decide +kernel
theorem dX8_init_18 : decode cX8_init 18 = .ok (.dup, 1) := by decide +kernel
theorem dX8_init_19 : decode cX8_init 19 = .ok (.iconst 2, 1) := by decide +kernel
theorem dX8_init_20 : decode cX8_init 20 = .ok (.bipush (-9), 2) := by decide +kernel
theorem dX8_init_22 : decode cX8_init 22 = .ok (.iastore, 1) := by decide +kernel
theorem dX8_init_23 : decode cX8_init 23 = .ok (.dup, 1) := by decide +kernel
theorem dX8_init_24 : decode cX8_init 24 = .ok (.iconst 3, 1) := by decide +kernel
theorem dX8_init_25 : decode cX8_init 25 = .ok (.bipush (-9), 2) := by decide +kernel
theorem dX8_init_27 : decode cX8_init 27 = .ok (.iastore, 1) := by decide +kernel
theorem dX8_init_28 : decode cX8_init 28 = .ok (.putfield 9, 3) := by decide +kernel
theorem dX8_init_31 : decode cX8_init 31 = .ok (.aload_n 0, 1) := by decide +kernel
theorem dX8_init_32 : decode cX8_init 32 = .ok (.iconst 4, 1) := by decide +kernel
theorem dX8_init_33 : decode cX8_init 33 = .ok (.newarray .int, 2) := by decide +kernel
theorem dX8_init_35 : decode cX8_init 35 = .ok (.putfield 13, 3) := by decide +kernel
theorem dX8_init_38 : decode cX8_init 38 = .ok (.aload_n 0, 1) := by decide +kernel
theorem dX8_init_39 : decode cX8_init 39 = .ok (.sipush 160, 3) := by decide +kernel
theorem dX8_init_42 : decode cX8_init 42 = .ok (.newarray .int, 2) := by decide +kernel
theorem dX8_init_44 : decode cX8_init 44 = .ok (.putfield 16, 3) := by decide +kernel
theorem dX8_init_47 : decode cX8_init 47 = .ok (.aload_n 0, 1) := by decide +kernel
theorem dX8_init_48 : decode cX8_init 48 = .ok (.bipush 24, 2) := by decide +kernel
theorem dX8_init_50 : decode cX8_init 50 = .ok (.newarray .int, 2) := by decide +kernel
theorem dX8_init_52 : decode cX8_init 52 = .ok (.putfield 19, 3) := by decide +kernel
theorem dX8_init_55 : decode cX8_init 55 = .ok (.aload_n 0, 1) := by decide +kernel
theorem dX8_init_56 : decode cX8_init 56 = .ok (.bipush 24, 2) := by decide +kernel
theorem dX8_init_58 : decode cX8_init 58 = .ok (.newarray .int, 2) := by decide +kernel
theorem dX8_init_60 : decode cX8_init 60 = .ok (.putfield 22, 3) := by decide +kernel
theorem dX8_init_63 : decode cX8_init 63 = .ok (.aload_n 0, 1) := by decide +kernel
theorem dX8_init_64 : decode cX8_init 64 = .ok (.bipush 24, 2) := by decide +kernel
theorem dX8_init_66 : decode cX8_init 66 = .ok (.newarray .int, 2) := by decide +kernel
theorem dX8_init_68 : decode cX8_init 68 = .ok (.putfield 25, 3) := by decide +kernel
theorem dX8_init_71 : decode cX8_init 71 = .ok (.aload_n 0, 1) := by decide +kernel
theorem dX8_init_72 : decode cX8_init 72 = .ok (.bipush 24, 2) := by decide +kernel
theorem dX8_init_74 : decode cX8_init 74 = .ok (.newarray .int, 2) := by decide +kernel
theorem dX8_init_76 : decode cX8_init 76 = .ok (.putfield 28, 3) := by decide +kernel
theorem dX8_init_79 : decode cX8_init 79 = .ok (.aload_n 0, 1) := by decide +kernel
theorem dX8_init_80 : decode cX8_init 80 = .ok (.bipush 24, 2) := by decide +kernel
theorem dX8_init_82 : decode cX8_init 82 = .ok (.newarray .boolean, 2) := by decide +kernel
theorem dX8_init_84 : decode cX8_init 84 = .ok (.putfield 31, 3) := by decide +kernel
theorem dX8_init_87 : decode cX8_init 87 = .ok (.aload_n 0, 1) := by decide +kernel
theorem dX8_init_88 : decode cX8_init 88 = .ok (.bipush 24, 2) := by decide +kernel
theorem dX8_init_90 : decode cX8_init 90 = .ok (.newarray .int, 2) := by decide +kernel
theorem dX8_init_92 : decode cX8_init 92 = .ok (.putfield 35, 3) := by decide +kernel
theorem dX8_init_95 : decode cX8_init 95 = .ok (.aload_n 0, 1) := by decide +kernel
theorem dX8_init_96 : decode cX8_init 96 = .ok (.bipush 6, 2) := by decide +kernel
theorem dX8_init_98 : decode cX8_init 98 = .ok (.newarray .int, 2) := by decide +kernel
theorem dX8_init_100 : decode cX8_init 100 = .ok (.putfield 38, 3) := by decide +kernel
theorem dX8_init_103 : decode cX8_init 103 = .ok (.aload_n 0, 1) := by decide +kernel
theorem dX8_init_104 : decode cX8_init 104 = .ok (.bipush 18, 2) := by decide +kernel
theorem dX8_init_106 : decode cX8_init 106 = .ok (.newarray .int, 2) := by decide +kernel
theorem dX8_init_108 : decode cX8_init 108 = .ok (.putfield 41, 3) := by decide +kernel
theorem dX8_init_111 : decode cX8_init 111 = .ok (.aload_n 0, 1) := by decide +kernel
theorem dX8_init_112 : decode cX8_init 112 = .ok (.bipush 12, 2) := by decide +kernel
theorem dX8_init_114 : decode cX8_init 114 = .ok (.newarray .int, 2) := by decide +kernel
theorem dX8_init_116 : decode cX8_init 116 = .ok (.putfield 44, 3) := by decide +kernel
theorem dX8_init_119 : decode cX8_init 119 = .ok (.aload_n 0, 1) := by decide +kernel
theorem dX8_init_120 : decode cX8_init 120 = .ok (.iconst 4, 1) := by decide +kernel
theorem dX8_init_121 : decode cX8_init 121 = .ok (.newarray .int, 2) := by decide +kernel
theorem dX8_init_123 : decode cX8_init 123 = .ok (.putfield 47, 3) := by decide +kernel
theorem dX8_init_126 : decode cX8_init 126 = .ok (.aload_n 0, 1) := by decide +kernel
theorem dX8_init_127 : decode cX8_init 127 = .ok (.iconst 3, 1) := by decide +kernel
theorem dX8_init_128 : decode cX8_init 128 = .ok (.newarray .int, 2) := by decide +kernel
theorem dX8_init_130 : decode cX8_init 130 = .ok (.putfield 50, 3) := by decide +kernel
theorem dX8_init_133 : decode cX8_init 133 = .ok (.aload_n 0, 1) := by decide +kernel
theorem dX8_init_134 : decode cX8_init 134 = .ok (.iconst 4, 1) := by decide +kernel
theorem dX8_init_135 : decode cX8_init 135 = .ok (.newarray .int, 2) := by decide +kernel
theorem dX8_init_137 : decode cX8_init 137 = .ok (.putfield 53, 3) := by decide +kernel
theorem dX8_init_140 : decode cX8_init 140 = .ok (.aload_n 0, 1) := by decide +kernel
theorem dX8_init_141 : decode cX8_init 141 = .ok (.bipush 24, 2) := by decide +kernel
theorem dX8_init_143 : decode cX8_init 143 = .ok (.newarray .int, 2) := by decide +kernel
theorem dX8_init_145 : decode cX8_init 145 = .ok (.putfield 56, 3) := by decide +kernel
theorem dX8_init_148 : decode cX8_init 148 = .ok (.aload_n 0, 1) := by decide +kernel
theorem dX8_init_149 : decode cX8_init 149 = .ok (.bipush 24, 2) := by decide +kernel
theorem dX8_init_151 : decode cX8_init 151 = .ok (.newarray .int, 2) := by decide +kernel
theorem dX8_init_153 : decode cX8_init 153 = .ok (.putfield 59, 3) := by decide +kernel
theorem dX8_init_156 : decode cX8_init 156 = .ok (.aload_n 0, 1) := by decide +kernel
theorem dX8_init_157 : decode cX8_init 157 = .ok (.bipush 24, 2) := by decide +kernel
theorem dX8_init_159 : decode cX8_init 159 = .ok (.newarray .int, 2) := by decide +kernel
theorem dX8_init_161 : decode cX8_init 161 = .ok (.putfield 62, 3) := by decide +kernel
theorem dX8_init_164 : decode cX8_init 164 = .ok (.return_, 1) := by decide +kernel
theorem dX8_fails_0 : decode cX8_fails 0 = .ok (.aload_n 0, 1) := by decide +kernel
theorem dX8_fails_1 : decode cX8_fails 1 = .ok (.iload_n 1, 1) := by decide +kernel
theorem dX8_fails_2 : decode cX8_fails 2 = .ok (.putfield 65, 3) := by decide +kernel
theorem dX8_fails_5 : decode cX8_fails 5 = .ok (.bipush (-10), 2) := by decide +kernel
theorem dX8_fails_7 : decode cX8_fails 7 = .ok (.iload_n 1, 1) := by decide +kernel
theorem dX8_fails_8 : decode cX8_fails 8 = .ok (.isub, 1) := by decide +kernel
theorem dX8_fails_9 : decode cX8_fails 9 = .ok (.ireturn, 1) := by decide +kernel
theorem dX8_lost_0 : decode cX8_lost 0 = .ok (.aload_n 0, 1) := by decide +kernel
theorem dX8_lost_1 : decode cX8_lost 1 = .ok (.iload_n 1, 1) := by decide +kernel
theorem dX8_lost_2 : decode cX8_lost 2 = .ok (.putfield 65, 3) := by decide +kernel
theorem dX8_lost_5 : decode cX8_lost 5 = .ok (.ldc2_w 69, 3) := by decide +kernel
theorem dX8_lost_8 : decode cX8_lost 8 = .ok (.lreturn, 1) := by decide +kernel
theorem dX8_within_0 : decode cX8_within 0 = .ok (.iload_n 0, 1) := by decide +kernel
theorem dX8_within_1 : decode cX8_within 1 = .ok (.iload_n 1, 1) := by decide +kernel
theorem dX8_within_2 : decode cX8_within 2 = .ok (.if_icmp .lt 12, 3) := by decide +kernel
theorem dX8_within_5 : decode cX8_within 5 = .ok (.iload_n 0, 1) := by decide +kernel
theorem dX8_within_6 : decode cX8_within 6 = .ok (.iload_n 2, 1) := by decide +kernel
theorem dX8_within_7 : decode cX8_within 7 = .ok (.if_icmp .gt 7, 3) := by decide +kernel
theorem dX8_within_10 : decode cX8_within 10 = .ok (.iconst 1, 1) := by decide +kernel
theorem dX8_within_11 : decode cX8_within 11 = .ok (.goto 4, 3) := by decide +kernel
theorem dX8_within_14 : decode cX8_within 14 = .ok (.iconst 0, 1) := by decide +kernel
theorem dX8_within_15 : decode cX8_within 15 = .ok (.ireturn, 1) := by decide +kernel
set_option maxRecDepth 20000 in
theorem ggX8_isSheet_X8_within : GoodIn wsX8_isSheet wsX8_within := goodIn_r _ [4] (by decide +kernel) (by decide +kernel)
set_option maxRecDepth 20000 in
theorem gX8_isSheet_X8_within : GoodIn wsX8_isSheet (va_wsS RX8 71 yX8_within wsX8_within) := goodIn_app (goodIn_of _ (by decide +kernel)) ggX8_isSheet_X8_within
theorem dX8_isSheet_0 : decode cX8_isSheet 0 = .ok (.iload_n 0, 1) := by decide +kernel
theorem dX8_isSheet_1 : decode cX8_isSheet 1 = .ok (.iconst 0, 1) := by decide +kernel
theorem dX8_isSheet_2 : decode cX8_isSheet 2 = .ok (.iconst 3, 1) := by decide +kernel
theorem dX8_isSheet_3 : decode cX8_isSheet 3 = .ok (.invokestatic 71, 3) := by decide +kernel
theorem dX8_isSheet_6 : decode cX8_isSheet 6 = .ok (.ireturn, 1) := by decide +kernel
set_option maxRecDepth 20000 in
theorem ggX8_isSort_X8_within : GoodIn wsX8_isSort wsX8_within := goodIn_r _ [4] (by decide +kernel) (by decide +kernel)
set_option maxRecDepth 20000 in
theorem gX8_isSort_X8_within : GoodIn wsX8_isSort (va_wsS RX8 71 yX8_within wsX8_within) := goodIn_app (goodIn_of _ (by decide +kernel)) ggX8_isSort_X8_within
theorem dX8_isSort_0 : decode cX8_isSort 0 = .ok (.iload_n 0, 1) := by decide +kernel
theorem dX8_isSort_1 : decode cX8_isSort 1 = .ok (.iconst 0, 1) := by decide +kernel
theorem dX8_isSort_2 : decode cX8_isSort 2 = .ok (.iconst 2, 1) := by decide +kernel
theorem dX8_isSort_3 : decode cX8_isSort 3 = .ok (.invokestatic 71, 3) := by decide +kernel
theorem dX8_isSort_6 : decode cX8_isSort 6 = .ok (.ireturn, 1) := by decide +kernel
theorem dX8_against_0 : decode cX8_against 0 = .ok (.aload_n 0, 1) := by decide +kernel
theorem dX8_against_1 : decode cX8_against 1 = .ok (.getfield 9, 3) := by decide +kernel
theorem dX8_against_4 : decode cX8_against 4 = .ok (.iload_n 1, 1) := by decide +kernel
theorem dX8_against_5 : decode cX8_against 5 = .ok (.iaload, 1) := by decide +kernel
theorem dX8_against_6 : decode cX8_against 6 = .ok (.bipush (-9), 2) := by decide +kernel
theorem dX8_against_8 : decode cX8_against 8 = .ok (.if_icmp .eq 15, 3) := by decide +kernel
theorem dX8_against_11 : decode cX8_against 11 = .ok (.aload_n 0, 1) := by decide +kernel
theorem dX8_against_12 : decode cX8_against 12 = .ok (.getfield 9, 3) := by decide +kernel
theorem dX8_against_15 : decode cX8_against 15 = .ok (.iload_n 1, 1) := by decide +kernel
theorem dX8_against_16 : decode cX8_against 16 = .ok (.iaload, 1) := by decide +kernel
theorem dX8_against_17 : decode cX8_against 17 = .ok (.iload_n 2, 1) := by decide +kernel
theorem dX8_against_18 : decode cX8_against 18 = .ok (.if_icmp .eq 5, 3) := by decide +kernel
theorem dX8_against_21 : decode cX8_against 21 = .ok (.iconst 2, 1) := by decide +kernel
theorem dX8_against_22 : decode cX8_against 22 = .ok (.ireturn, 1) := by decide +kernel
theorem dX8_against_23 : decode cX8_against 23 = .ok (.aload_n 0, 1) := by decide +kernel
theorem dX8_against_24 : decode cX8_against 24 = .ok (.getfield 9, 3) := by decide +kernel
theorem dX8_against_27 : decode cX8_against 27 = .ok (.iload_n 1, 1) := by decide +kernel
theorem dX8_against_28 : decode cX8_against 28 = .ok (.iaload, 1) := by decide +kernel
theorem dX8_against_29 : decode cX8_against 29 = .ok (.bipush (-9), 2) := by decide +kernel
theorem dX8_against_31 : decode cX8_against 31 = .ok (.if_icmp .ne 5, 3) := by decide +kernel
theorem dX8_against_34 : decode cX8_against 34 = .ok (.iconst 1, 1) := by decide +kernel
theorem dX8_against_35 : decode cX8_against 35 = .ok (.ireturn, 1) := by decide +kernel
theorem dX8_against_36 : decode cX8_against 36 = .ok (.iload 4, 2) := by decide +kernel
theorem dX8_against_38 : decode cX8_against 38 = .ok (.ifCond .ge 5, 3) := by decide +kernel
theorem dX8_against_41 : decode cX8_against 41 = .ok (.iconst 4, 1) := by decide +kernel
theorem dX8_against_42 : decode cX8_against 42 = .ok (.ireturn, 1) := by decide +kernel
theorem dX8_against_43 : decode cX8_against 43 = .ok (.iload_n 3, 1) := by decide +kernel
theorem dX8_against_44 : decode cX8_against 44 = .ok (.ifCond .lt 26, 3) := by decide +kernel
theorem dX8_against_47 : decode cX8_against 47 = .ok (.iload_n 3, 1) := by decide +kernel
theorem dX8_against_48 : decode cX8_against 48 = .ok (.aload_n 0, 1) := by decide +kernel
theorem dX8_against_49 : decode cX8_against 49 = .ok (.getfield 13, 3) := by decide +kernel
theorem dX8_against_52 : decode cX8_against 52 = .ok (.iload_n 1, 1) := by decide +kernel
theorem dX8_against_53 : decode cX8_against 53 = .ok (.iaload, 1) := by decide +kernel
theorem dX8_against_54 : decode cX8_against 54 = .ok (.if_icmp .gt 16, 3) := by decide +kernel
theorem dX8_against_57 : decode cX8_against 57 = .ok (.iload 4, 2) := by decide +kernel
theorem dX8_against_59 : decode cX8_against 59 = .ok (.aload_n 0, 1) := by decide +kernel
theorem dX8_against_60 : decode cX8_against 60 = .ok (.getfield 13, 3) := by decide +kernel
theorem dX8_against_63 : decode cX8_against 63 = .ok (.iload_n 1, 1) := by decide +kernel
theorem dX8_against_64 : decode cX8_against 64 = .ok (.iaload, 1) := by decide +kernel
theorem dX8_against_65 : decode cX8_against 65 = .ok (.iload_n 3, 1) := by decide +kernel
theorem dX8_against_66 : decode cX8_against 66 = .ok (.isub, 1) := by decide +kernel
theorem dX8_against_67 : decode cX8_against 67 = .ok (.if_icmp .le 7, 3) := by decide +kernel
theorem dX8_against_70 : decode cX8_against 70 = .ok (.iconst 3, 1) := by decide +kernel
theorem dX8_against_71 : decode cX8_against 71 = .ok (.goto 4, 3) := by decide +kernel
theorem dX8_against_74 : decode cX8_against 74 = .ok (.iconst 0, 1) := by decide +kernel
theorem dX8_against_75 : decode cX8_against 75 = .ok (.ireturn, 1) := by decide +kernel
theorem dX8_all_0 : decode cX8_all 0 = .ok (.aload_n 0, 1) := by decide +kernel
theorem dX8_all_1 : decode cX8_all 1 = .ok (.getfield 75, 3) := by decide +kernel
theorem dX8_all_4 : decode cX8_all 4 = .ok (.aload_n 0, 1) := by decide +kernel
theorem dX8_all_5 : decode cX8_all 5 = .ok (.getfield 78, 3) := by decide +kernel
theorem dX8_all_8 : decode cX8_all 8 = .ok (.imul, 1) := by decide +kernel
theorem dX8_all_9 : decode cX8_all 9 = .ok (.ireturn, 1) := by decide +kernel
set_option maxRecDepth 20000 in
theorem ggX8_isCell_X8_all : GoodIn wsX8_isCell wsX8_all := goodIn_r _ [5, 6, 7, 8, 9, 10, 11, 12, 13, 14, 15, 16, 17, 18, 19, 20, 21, 22, 23, 24, 25, 26, 27, 28, 29, 30, 31, 32, 33, 34, 35, 36, 37, 38, 39, 40, 41, 42] (by decide +kernel) (by decide +kernel)
set_option maxRecDepth 20000 in
theorem gX8_isCell_X8_all : GoodIn wsX8_isCell (wsV RX8 81 RX8 yX8_all wsX8_all) := goodIn_app (goodIn_of _ (by decide +kernel)) ggX8_isCell_X8_all
theorem dX8_isCell_0 : decode cX8_isCell 0 = .ok (.iload_n 1, 1) := by decide +kernel
theorem dX8_isCell_1 : decode cX8_isCell 1 = .ok (.ifCond .lt 15, 3) := by decide +kernel
theorem dX8_isCell_4 : decode cX8_isCell 4 = .ok (.iload_n 1, 1) := by decide +kernel
theorem dX8_isCell_5 : decode cX8_isCell 5 = .ok (.aload_n 0, 1) := by decide +kernel
theorem dX8_isCell_6 : decode cX8_isCell 6 = .ok (.invokevirtual 81, 3) := by decide +kernel
theorem dX8_isCell_9 : decode cX8_isCell 9 = .ok (.if_icmp .ge 7, 3) := by decide +kernel
theorem dX8_isCell_12 : decode cX8_isCell 12 = .ok (.iconst 1, 1) := by decide +kernel
theorem dX8_isCell_13 : decode cX8_isCell 13 = .ok (.goto 4, 3) := by decide +kernel
theorem dX8_isCell_16 : decode cX8_isCell 16 = .ok (.iconst 0, 1) := by decide +kernel
theorem dX8_isCell_17 : decode cX8_isCell 17 = .ok (.ireturn, 1) := by decide +kernel
set_option maxRecDepth 20000 in
theorem ggX8_digit_X8_within : GoodIn wsX8_digit wsX8_within := goodIn_r _ [6] (by decide +kernel) (by decide +kernel)
set_option maxRecDepth 20000 in
theorem gX8_digit_X8_within : GoodIn wsX8_digit (va_wsS RX8 71 yX8_within wsX8_within) := goodIn_app (goodIn_of _ (by decide +kernel)) ggX8_digit_X8_within
theorem dX8_digit_0 : decode cX8_digit 0 = .ok (.aload_n 0, 1) := by decide +kernel
theorem dX8_digit_1 : decode cX8_digit 1 = .ok (.getfield 85, 3) := by decide +kernel
theorem dX8_digit_4 : decode cX8_digit 4 = .ok (.iload_n 1, 1) := by decide +kernel
theorem dX8_digit_5 : decode cX8_digit 5 = .ok (.if_icmp .ge 26, 3) := by decide +kernel
theorem dX8_digit_8 : decode cX8_digit 8 = .ok (.aload_n 0, 1) := by decide +kernel
theorem dX8_digit_9 : decode cX8_digit 9 = .ok (.getfield 16, 3) := by decide +kernel
theorem dX8_digit_12 : decode cX8_digit 12 = .ok (.aload_n 0, 1) := by decide +kernel
theorem dX8_digit_13 : decode cX8_digit 13 = .ok (.getfield 85, 3) := by decide +kernel
theorem dX8_digit_16 : decode cX8_digit 16 = .ok (.iaload, 1) := by decide +kernel
theorem dX8_digit_17 : decode cX8_digit 17 = .ok (.bipush 48, 2) := by decide +kernel
theorem dX8_digit_19 : decode cX8_digit 19 = .ok (.iload_n 2, 1) := by decide +kernel
theorem dX8_digit_20 : decode cX8_digit 20 = .ok (.iadd, 1) := by decide +kernel
theorem dX8_digit_21 : decode cX8_digit 21 = .ok (.bipush 48, 2) := by decide +kernel
theorem dX8_digit_23 : decode cX8_digit 23 = .ok (.iload_n 3, 1) := by decide +kernel
theorem dX8_digit_24 : decode cX8_digit 24 = .ok (.iadd, 1) := by decide +kernel
theorem dX8_digit_25 : decode cX8_digit 25 = .ok (.invokestatic 71, 3) := by decide +kernel
theorem dX8_digit_28 : decode cX8_digit 28 = .ok (.ifCond .ne 6, 3) := by decide +kernel
theorem dX8_digit_31 : decode cX8_digit 31 = .ok (.bipush (-9), 2) := by decide +kernel
theorem dX8_digit_33 : decode cX8_digit 33 = .ok (.ireturn, 1) := by decide +kernel
theorem dX8_digit_34 : decode cX8_digit 34 = .ok (.aload_n 0, 1) := by decide +kernel
theorem dX8_digit_35 : decode cX8_digit 35 = .ok (.dup, 1) := by decide +kernel
theorem dX8_digit_36 : decode cX8_digit 36 = .ok (.getfield 85, 3) := by decide +kernel
theorem dX8_digit_39 : decode cX8_digit 39 = .ok (.iconst 1, 1) := by decide +kernel
theorem dX8_digit_40 : decode cX8_digit 40 = .ok (.iadd, 1) := by decide +kernel
theorem dX8_digit_41 : decode cX8_digit 41 = .ok (.putfield 85, 3) := by decide +kernel
theorem dX8_digit_44 : decode cX8_digit 44 = .ok (.aload_n 0, 1) := by decide +kernel
theorem dX8_digit_45 : decode cX8_digit 45 = .ok (.getfield 16, 3) := by decide +kernel
theorem dX8_digit_48 : decode cX8_digit 48 = .ok (.aload_n 0, 1) := by decide +kernel
theorem dX8_digit_49 : decode cX8_digit 49 = .ok (.getfield 85, 3) := by decide +kernel
theorem dX8_digit_52 : decode cX8_digit 52 = .ok (.iconst 1, 1) := by decide +kernel
theorem dX8_digit_53 : decode cX8_digit 53 = .ok (.isub, 1) := by decide +kernel
theorem dX8_digit_54 : decode cX8_digit 54 = .ok (.iaload, 1) := by decide +kernel
theorem dX8_digit_55 : decode cX8_digit 55 = .ok (.bipush 48, 2) := by decide +kernel
theorem dX8_digit_57 : decode cX8_digit 57 = .ok (.isub, 1) := by decide +kernel
theorem dX8_digit_58 : decode cX8_digit 58 = .ok (.ireturn, 1) := by decide +kernel
set_option maxRecDepth 20000 in
theorem ggX8_wall_X8_isSheet : GoodIn wsX8_wall wsX8_isSheet := goodIn_r _ [21, 22, 23, 20, 24] (by decide +kernel) (by decide +kernel)
set_option maxRecDepth 20000 in
theorem gX8_wall_X8_isSheet : GoodIn wsX8_wall (va_wsS RX8 88 yX8_isSheet wsX8_isSheet) := goodIn_app (goodIn_of _ (by decide +kernel)) ggX8_wall_X8_isSheet
set_option maxRecDepth 20000 in
theorem ggX8_wall_X8_isSort : GoodIn wsX8_wall wsX8_isSort := goodIn_r _ [27, 22, 23, 20, 24] (by decide +kernel) (by decide +kernel)
set_option maxRecDepth 20000 in
theorem gX8_wall_X8_isSort : GoodIn wsX8_wall (va_wsS RX8 92 yX8_isSort wsX8_isSort) := goodIn_app (goodIn_of _ (by decide +kernel)) ggX8_wall_X8_isSort
set_option maxRecDepth 20000 in
theorem ggX8_wall_X8_against : GoodIn wsX8_wall wsX8_against := goodIn_r _ [31, 32, 33, 57, 58, 59, 60, 61, 62, 63, 64, 65, 66, 67, 68, 69, 70, 71, 72, 73, 74, 75, 76, 77, 78, 79, 80, 81, 82, 83, 84, 85, 86, 87, 88, 89, 90, 91] (by decide +kernel) (by decide +kernel)
set_option maxRecDepth 20000 in
theorem gX8_wall_X8_against : GoodIn wsX8_wall (wsV RX8 95 RX8 yX8_against wsX8_against) := goodIn_app (goodIn_of _ (by decide +kernel)) ggX8_wall_X8_against
set_option maxRecDepth 20000 in
theorem ggX8_wall_X8_fails : GoodIn wsX8_wall wsX8_fails := goodIn_r _ [37, 1, 57, 58, 59, 60, 61, 62, 63, 64, 65, 66, 67, 68, 69, 70, 71, 72, 73, 74, 75, 76, 77, 78, 79, 80, 81, 82, 83, 84, 85, 86, 87, 88, 89, 90, 91] (by decide +kernel) (by decide +kernel)
set_option maxRecDepth 20000 in
theorem gX8_wall_X8_fails : GoodIn wsX8_wall (wsV RX8 99 RX8 yX8_fails wsX8_fails) := goodIn_app (goodIn_of _ (by decide +kernel)) ggX8_wall_X8_fails
set_option maxRecDepth 20000 in
theorem ggX8_wall_X8_readWall : GoodIn wsX8_wall wsX8_readWall := goodIn_r _ [41, 2, 42, 3, 5, 8, 43, 44, 45, 20, 46, 22, 23, 24, 57, 58, 59, 60, 61, 62, 63, 64, 65, 66, 67, 68, 69, 70, 71, 72, 73, 74, 75, 76, 77, 78, 79, 80, 81, 82, 83, 84, 85, 86, 87, 88, 89, 90, 91] (by decide +kernel) (by decide +kernel)
set_option maxRecDepth 20000 in
theorem gX8_wall_X8_readWall : GoodIn wsX8_wall (wsV RX8 103 RX8 yX8_readWall wsX8_readWall) := goodIn_app (goodIn_of _ (by decide +kernel)) ggX8_wall_X8_readWall
set_option maxRecDepth 20000 in
theorem ggX8_wall_X8_all : GoodIn wsX8_wall wsX8_all := goodIn_r _ [50, 4, 6, 57, 58, 59, 60, 61, 62, 63, 64, 65, 66, 67, 68, 69, 70, 71, 72, 73, 74, 75, 76, 77, 78, 79, 80, 81, 82, 83, 84, 85, 86, 87, 88, 89, 90, 91] (by decide +kernel) (by decide +kernel)
set_option maxRecDepth 20000 in
theorem gX8_wall_X8_all : GoodIn wsX8_wall (wsV RX8 81 RX8 yX8_all wsX8_all) := goodIn_app (goodIn_of _ (by decide +kernel)) ggX8_wall_X8_all
set_option maxRecDepth 20000 in
theorem ggX8_wall_X8_addCoat : GoodIn wsX8_wall wsX8_addCoat := goodIn_r _ [54, 55, 17, 56, 57, 58, 59, 60, 61, 62, 63, 64, 65, 66, 67, 68, 69, 70, 71, 72, 73, 74, 75, 76, 77, 78, 79, 80, 81, 82, 83, 84, 85, 86, 87, 88, 89, 90, 91] (by decide +kernel) (by decide +kernel)
set_option maxRecDepth 20000 in
theorem gX8_wall_X8_addCoat : GoodIn wsX8_wall (wsV RX8 127 RX8 yX8_addCoat wsX8_addCoat) := goodIn_app (goodIn_of _ (by decide +kernel)) ggX8_wall_X8_addCoat
theorem dX8_wall_0 : decode cX8_wall 0 = .ok (.aload_n 0, 1) := by decide +kernel
theorem dX8_wall_1 : decode cX8_wall 1 = .ok (.iconst 0, 1) := by decide +kernel
theorem dX8_wall_2 : decode cX8_wall 2 = .ok (.putfield 65, 3) := by decide +kernel
theorem dX8_wall_5 : decode cX8_wall 5 = .ok (.iload_n 1, 1) := by decide +kernel
theorem dX8_wall_6 : decode cX8_wall 6 = .ok (.invokestatic 88, 3) := by decide +kernel
theorem dX8_wall_9 : decode cX8_wall 9 = .ok (.ifCond .ne 5, 3) := by decide +kernel
theorem dX8_wall_12 : decode cX8_wall 12 = .ok (.iconst (-1), 1) := by decide +kernel
theorem dX8_wall_13 : decode cX8_wall 13 = .ok (.ireturn, 1) := by decide +kernel
theorem dX8_wall_14 : decode cX8_wall 14 = .ok (.iload_n 2, 1) := by decide +kernel
theorem dX8_wall_15 : decode cX8_wall 15 = .ok (.invokestatic 92, 3) := by decide +kernel
theorem dX8_wall_18 : decode cX8_wall 18 = .ok (.ifCond .ne 6, 3) := by decide +kernel
theorem dX8_wall_21 : decode cX8_wall 21 = .ok (.bipush (-2), 2) := by decide +kernel
theorem dX8_wall_23 : decode cX8_wall 23 = .ok (.ireturn, 1) := by decide +kernel
theorem dX8_wall_24 : decode cX8_wall 24 = .ok (.aload_n 0, 1) := by decide +kernel
theorem dX8_wall_25 : decode cX8_wall 25 = .ok (.iload_n 1, 1) := by decide +kernel
theorem dX8_wall_26 : decode cX8_wall 26 = .ok (.iload_n 2, 1) := by decide +kernel
theorem dX8_wall_27 : decode cX8_wall 27 = .ok (.iload_n 3, 1) := by decide +kernel
theorem dX8_wall_28 : decode cX8_wall 28 = .ok (.iload 4, 2) := by decide +kernel
theorem dX8_wall_30 : decode cX8_wall 30 = .ok (.invokevirtual 95, 3) := by decide +kernel
theorem dX8_wall_33 : decode cX8_wall 33 = .ok (.istore 5, 2) := by decide +kernel
theorem dX8_wall_35 : decode cX8_wall 35 = .ok (.iload 5, 2) := by decide +kernel
theorem dX8_wall_37 : decode cX8_wall 37 = .ok (.ifCond .eq 10, 3) := by decide +kernel
theorem dX8_wall_40 : decode cX8_wall 40 = .ok (.aload_n 0, 1) := by decide +kernel
theorem dX8_wall_41 : decode cX8_wall 41 = .ok (.iload 5, 2) := by decide +kernel
theorem dX8_wall_43 : decode cX8_wall 43 = .ok (.invokevirtual 99, 3) := by decide +kernel
theorem dX8_wall_46 : decode cX8_wall 46 = .ok (.ireturn, 1) := by decide +kernel
theorem dX8_wall_47 : decode cX8_wall 47 = .ok (.bipush 40, 2) := by decide +kernel
theorem dX8_wall_49 : decode cX8_wall 49 = .ok (.iload_n 1, 1) := by decide +kernel
theorem dX8_wall_50 : decode cX8_wall 50 = .ok (.imul, 1) := by decide +kernel
theorem dX8_wall_51 : decode cX8_wall 51 = .ok (.iload_n 3, 1) := by decide +kernel
theorem dX8_wall_52 : decode cX8_wall 52 = .ok (.iadd, 1) := by decide +kernel
theorem dX8_wall_53 : decode cX8_wall 53 = .ok (.istore 6, 2) := by decide +kernel
theorem dX8_wall_55 : decode cX8_wall 55 = .ok (.aload_n 0, 1) := by decide +kernel
theorem dX8_wall_56 : decode cX8_wall 56 = .ok (.iload 6, 2) := by decide +kernel
theorem dX8_wall_58 : decode cX8_wall 58 = .ok (.putfield 85, 3) := by decide +kernel
theorem dX8_wall_61 : decode cX8_wall 61 = .ok (.aload_n 0, 1) := by decide +kernel
theorem dX8_wall_62 : decode cX8_wall 62 = .ok (.iload 6, 2) := by decide +kernel
theorem dX8_wall_64 : decode cX8_wall 64 = .ok (.iload 4, 2) := by decide +kernel
theorem dX8_wall_66 : decode cX8_wall 66 = .ok (.iadd, 1) := by decide +kernel
theorem dX8_wall_67 : decode cX8_wall 67 = .ok (.invokevirtual 103, 3) := by decide +kernel
theorem dX8_wall_70 : decode cX8_wall 70 = .ok (.ifCond .ne 14, 3) := by decide +kernel
theorem dX8_wall_73 : decode cX8_wall 73 = .ok (.bipush (-100), 2) := by decide +kernel
theorem dX8_wall_75 : decode cX8_wall 75 = .ok (.aload_n 0, 1) := by decide +kernel
theorem dX8_wall_76 : decode cX8_wall 76 = .ok (.getfield 85, 3) := by decide +kernel
theorem dX8_wall_79 : decode cX8_wall 79 = .ok (.iload 6, 2) := by decide +kernel
theorem dX8_wall_81 : decode cX8_wall 81 = .ok (.isub, 1) := by decide +kernel
theorem dX8_wall_82 : decode cX8_wall 82 = .ok (.isub, 1) := by decide +kernel
theorem dX8_wall_83 : decode cX8_wall 83 = .ok (.ireturn, 1) := by decide +kernel
theorem dX8_wall_84 : decode cX8_wall 84 = .ok (.aload_n 0, 1) := by decide +kernel
theorem dX8_wall_85 : decode cX8_wall 85 = .ok (.aload_n 0, 1) := by decide +kernel
theorem dX8_wall_86 : decode cX8_wall 86 = .ok (.getfield 106, 3) := by decide +kernel
theorem dX8_wall_89 : decode cX8_wall 89 = .ok (.putfield 75, 3) := by decide +kernel
theorem dX8_wall_92 : decode cX8_wall 92 = .ok (.aload_n 0, 1) := by decide +kernel
theorem dX8_wall_93 : decode cX8_wall 93 = .ok (.aload_n 0, 1) := by decide +kernel
theorem dX8_wall_94 : decode cX8_wall 94 = .ok (.getfield 109, 3) := by decide +kernel
theorem dX8_wall_97 : decode cX8_wall 97 = .ok (.putfield 78, 3) := by decide +kernel
theorem dX8_wall_100 : decode cX8_wall 100 = .ok (.iconst 0, 1) := by decide +kernel
theorem dX8_wall_101 : decode cX8_wall 101 = .ok (.istore 7, 2) := by decide +kernel
theorem dX8_wall_103 : decode cX8_wall 103 = .ok (.iload 7, 2) := by decide +kernel
theorem dX8_wall_105 : decode cX8_wall 105 = .ok (.aload_n 0, 1) := by decide +kernel
theorem dX8_wall_106 : decode cX8_wall 106 = .ok (.invokevirtual 81, 3) := by decide +kernel
theorem dX8_wall_109 : decode cX8_wall 109 = .ok (.if_icmp .ge 55, 3) := by decide +kernel
theorem dX8_wall_112 : decode cX8_wall 112 = .ok (.aload_n 0, 1) := by decide +kernel
theorem dX8_wall_113 : decode cX8_wall 113 = .ok (.getfield 19, 3) := by decide +kernel
theorem dX8_wall_116 : decode cX8_wall 116 = .ok (.iload 7, 2) := by decide +kernel
theorem dX8_wall_118 : decode cX8_wall 118 = .ok (.aload_n 0, 1) := by decide +kernel
theorem dX8_wall_119 : decode cX8_wall 119 = .ok (.getfield 35, 3) := by decide +kernel
theorem dX8_wall_122 : decode cX8_wall 122 = .ok (.iload 7, 2) := by decide +kernel
theorem dX8_wall_124 : decode cX8_wall 124 = .ok (.iaload, 1) := by decide +kernel
theorem dX8_wall_125 : decode cX8_wall 125 = .ok (.iastore, 1) := by decide +kernel
theorem dX8_wall_126 : decode cX8_wall 126 = .ok (.aload_n 0, 1) := by decide +kernel
theorem dX8_wall_127 : decode cX8_wall 127 = .ok (.getfield 22, 3) := by decide +kernel
theorem dX8_wall_130 : decode cX8_wall 130 = .ok (.iload 7, 2) := by decide +kernel
theorem dX8_wall_132 : decode cX8_wall 132 = .ok (.iconst 0, 1) := by decide +kernel
theorem dX8_wall_133 : decode cX8_wall 133 = .ok (.iastore, 1) := by decide +kernel
theorem dX8_wall_134 : decode cX8_wall 134 = .ok (.aload_n 0, 1) := by decide +kernel
theorem dX8_wall_135 : decode cX8_wall 135 = .ok (.getfield 25, 3) := by decide +kernel
theorem dX8_wall_138 : decode cX8_wall 138 = .ok (.iload 7, 2) := by decide +kernel
theorem dX8_wall_140 : decode cX8_wall 140 = .ok (.iconst 0, 1) := by decide +kernel
theorem dX8_wall_141 : decode cX8_wall 141 = .ok (.iastore, 1) := by decide +kernel
theorem dX8_wall_142 : decode cX8_wall 142 = .ok (.aload_n 0, 1) := by decide +kernel
theorem dX8_wall_143 : decode cX8_wall 143 = .ok (.getfield 28, 3) := by decide +kernel
theorem dX8_wall_146 : decode cX8_wall 146 = .ok (.iload 7, 2) := by decide +kernel
theorem dX8_wall_148 : decode cX8_wall 148 = .ok (.iconst 0, 1) := by decide +kernel
theorem dX8_wall_149 : decode cX8_wall 149 = .ok (.iastore, 1) := by decide +kernel
theorem dX8_wall_150 : decode cX8_wall 150 = .ok (.aload_n 0, 1) := by decide +kernel
theorem dX8_wall_151 : decode cX8_wall 151 = .ok (.getfield 31, 3) := by decide +kernel
theorem dX8_wall_154 : decode cX8_wall 154 = .ok (.iload 7, 2) := by decide +kernel
theorem dX8_wall_156 : decode cX8_wall 156 = .ok (.iconst 0, 1) := by decide +kernel
theorem dX8_wall_157 : decode cX8_wall 157 = .ok (.bastore, 1) := by decide +kernel
theorem dX8_wall_158 : decode cX8_wall 158 = .ok (.iinc 7 1, 3) := by decide +kernel
theorem dX8_wall_161 : decode cX8_wall 161 = .ok (.goto (-58), 3) := by decide +kernel
theorem dX8_wall_164 : decode cX8_wall 164 = .ok (.aload_n 0, 1) := by decide +kernel
theorem dX8_wall_165 : decode cX8_wall 165 = .ok (.iconst 0, 1) := by decide +kernel
theorem dX8_wall_166 : decode cX8_wall 166 = .ok (.putfield 112, 3) := by decide +kernel
theorem dX8_wall_169 : decode cX8_wall 169 = .ok (.aload_n 0, 1) := by decide +kernel
theorem dX8_wall_170 : decode cX8_wall 170 = .ok (.iconst 0, 1) := by decide +kernel
theorem dX8_wall_171 : decode cX8_wall 171 = .ok (.putfield 115, 3) := by decide +kernel
theorem dX8_wall_174 : decode cX8_wall 174 = .ok (.aload_n 0, 1) := by decide +kernel
theorem dX8_wall_175 : decode cX8_wall 175 = .ok (.bipush 10, 2) := by decide +kernel
theorem dX8_wall_177 : decode cX8_wall 177 = .ok (.putfield 118, 3) := by decide +kernel
theorem dX8_wall_180 : decode cX8_wall 180 = .ok (.aload_n 0, 1) := by decide +kernel
theorem dX8_wall_181 : decode cX8_wall 181 = .ok (.iconst 0, 1) := by decide +kernel
theorem dX8_wall_182 : decode cX8_wall 182 = .ok (.putfield 121, 3) := by decide +kernel
theorem dX8_wall_185 : decode cX8_wall 185 = .ok (.aload_n 0, 1) := by decide +kernel
theorem dX8_wall_186 : decode cX8_wall 186 = .ok (.iconst 0, 1) := by decide +kernel
theorem dX8_wall_187 : decode cX8_wall 187 = .ok (.putfield 124, 3) := by decide +kernel
theorem dX8_wall_190 : decode cX8_wall 190 = .ok (.aload_n 0, 1) := by decide +kernel
theorem dX8_wall_191 : decode cX8_wall 191 = .ok (.iconst 0, 1) := by decide +kernel
theorem dX8_wall_192 : decode cX8_wall 192 = .ok (.bipush 90, 2) := by decide +kernel
theorem dX8_wall_194 : decode cX8_wall 194 = .ok (.bipush 90, 2) := by decide +kernel
theorem dX8_wall_196 : decode cX8_wall 196 = .ok (.bipush 90, 2) := by decide +kernel
theorem dX8_wall_198 : decode cX8_wall 198 = .ok (.invokevirtual 127, 3) := by decide +kernel
theorem dX8_wall_201 : decode cX8_wall 201 = .ok (.pop, 1) := by decide +kernel
theorem dX8_wall_202 : decode cX8_wall 202 = .ok (.aload_n 0, 1) := by decide +kernel
theorem dX8_wall_203 : decode cX8_wall 203 = .ok (.invokevirtual 81, 3) := by decide +kernel
theorem dX8_wall_206 : decode cX8_wall 206 = .ok (.ireturn, 1) := by decide +kernel
set_option maxRecDepth 20000 in
theorem ggX8_readWall_X8_digit : GoodIn wsX8_readWall wsX8_digit := goodIn_r _ [10, 1, 2, 11, 12, 9, 13, 14, 15, 16, 17, 18, 19, 20, 21, 22, 23, 24, 25, 26, 27, 28, 29, 30, 31, 32, 33, 34, 35, 36, 37, 38, 39, 40, 41, 42, 43, 44, 45, 46, 47, 48] (by decide +kernel) (by decide +kernel)
set_option maxRecDepth 20000 in
theorem gX8_readWall_X8_digit : GoodIn wsX8_readWall (wsV RX8 130 RX8 yX8_digit wsX8_digit) := goodIn_app (goodIn_of _ (by decide +kernel)) ggX8_readWall_X8_digit
theorem dX8_readWall_0 : decode cX8_readWall 0 = .ok (.aload_n 0, 1) := by decide +kernel
theorem dX8_readWall_1 : decode cX8_readWall 1 = .ok (.getfield 85, 3) := by decide +kernel
theorem dX8_readWall_4 : decode cX8_readWall 4 = .ok (.iload_n 1, 1) := by decide +kernel
theorem dX8_readWall_5 : decode cX8_readWall 5 = .ok (.if_icmp .ge 17, 3) := by decide +kernel
theorem dX8_readWall_8 : decode cX8_readWall 8 = .ok (.aload_n 0, 1) := by decide +kernel
theorem dX8_readWall_9 : decode cX8_readWall 9 = .ok (.getfield 16, 3) := by decide +kernel
theorem dX8_readWall_12 : decode cX8_readWall 12 = .ok (.aload_n 0, 1) := by decide +kernel
theorem dX8_readWall_13 : decode cX8_readWall 13 = .ok (.getfield 85, 3) := by decide +kernel
theorem dX8_readWall_16 : decode cX8_readWall 16 = .ok (.iaload, 1) := by decide +kernel
theorem dX8_readWall_17 : decode cX8_readWall 17 = .ok (.bipush 119, 2) := by decide +kernel
theorem dX8_readWall_19 : decode cX8_readWall 19 = .ok (.if_icmp .eq 5, 3) := by decide +kernel
theorem dX8_readWall_22 : decode cX8_readWall 22 = .ok (.iconst 0, 1) := by decide +kernel
theorem dX8_readWall_23 : decode cX8_readWall 23 = .ok (.ireturn, 1) := by decide +kernel
theorem dX8_readWall_24 : decode cX8_readWall 24 = .ok (.aload_n 0, 1) := by decide +kernel
theorem dX8_readWall_25 : decode cX8_readWall 25 = .ok (.dup, 1) := by decide +kernel
theorem dX8_readWall_26 : decode cX8_readWall 26 = .ok (.getfield 85, 3) := by decide +kernel
theorem dX8_readWall_29 : decode cX8_readWall 29 = .ok (.iconst 1, 1) := by decide +kernel
theorem dX8_readWall_30 : decode cX8_readWall 30 = .ok (.iadd, 1) := by decide +kernel
theorem dX8_readWall_31 : decode cX8_readWall 31 = .ok (.putfield 85, 3) := by decide +kernel
theorem dX8_readWall_34 : decode cX8_readWall 34 = .ok (.aload_n 0, 1) := by decide +kernel
theorem dX8_readWall_35 : decode cX8_readWall 35 = .ok (.aload_n 0, 1) := by decide +kernel
theorem dX8_readWall_36 : decode cX8_readWall 36 = .ok (.iload_n 1, 1) := by decide +kernel
theorem dX8_readWall_37 : decode cX8_readWall 37 = .ok (.iconst 1, 1) := by decide +kernel
theorem dX8_readWall_38 : decode cX8_readWall 38 = .ok (.iconst 4, 1) := by decide +kernel
theorem dX8_readWall_39 : decode cX8_readWall 39 = .ok (.invokevirtual 130, 3) := by decide +kernel
theorem dX8_readWall_42 : decode cX8_readWall 42 = .ok (.putfield 106, 3) := by decide +kernel
theorem dX8_readWall_45 : decode cX8_readWall 45 = .ok (.aload_n 0, 1) := by decide +kernel
theorem dX8_readWall_46 : decode cX8_readWall 46 = .ok (.getfield 106, 3) := by decide +kernel
theorem dX8_readWall_49 : decode cX8_readWall 49 = .ok (.bipush (-9), 2) := by decide +kernel
theorem dX8_readWall_51 : decode cX8_readWall 51 = .ok (.if_icmp .ne 5, 3) := by decide +kernel
theorem dX8_readWall_54 : decode cX8_readWall 54 = .ok (.iconst 0, 1) := by decide +kernel
theorem dX8_readWall_55 : decode cX8_readWall 55 = .ok (.ireturn, 1) := by decide +kernel
theorem dX8_readWall_56 : decode cX8_readWall 56 = .ok (.aload_n 0, 1) := by decide +kernel
theorem dX8_readWall_57 : decode cX8_readWall 57 = .ok (.aload_n 0, 1) := by decide +kernel
theorem dX8_readWall_58 : decode cX8_readWall 58 = .ok (.iload_n 1, 1) := by decide +kernel
theorem dX8_readWall_59 : decode cX8_readWall 59 = .ok (.iconst 2, 1) := by decide +kernel
theorem dX8_readWall_60 : decode cX8_readWall 60 = .ok (.bipush 6, 2) := by decide +kernel
theorem dX8_readWall_62 : decode cX8_readWall 62 = .ok (.invokevirtual 130, 3) := by decide +kernel
theorem dX8_readWall_65 : decode cX8_readWall 65 = .ok (.putfield 109, 3) := by decide +kernel
theorem dX8_readWall_68 : decode cX8_readWall 68 = .ok (.aload_n 0, 1) := by decide +kernel
theorem dX8_readWall_69 : decode cX8_readWall 69 = .ok (.getfield 109, 3) := by decide +kernel
theorem dX8_readWall_72 : decode cX8_readWall 72 = .ok (.bipush (-9), 2) := by decide +kernel
theorem dX8_readWall_74 : decode cX8_readWall 74 = .ok (.if_icmp .ne 5, 3) := by decide +kernel
theorem dX8_readWall_77 : decode cX8_readWall 77 = .ok (.iconst 0, 1) := by decide +kernel
theorem dX8_readWall_78 : decode cX8_readWall 78 = .ok (.ireturn, 1) := by decide +kernel
theorem dX8_readWall_79 : decode cX8_readWall 79 = .ok (.iconst 0, 1) := by decide +kernel
theorem dX8_readWall_80 : decode cX8_readWall 80 = .ok (.istore_n 2, 1) := by decide +kernel
theorem dX8_readWall_81 : decode cX8_readWall 81 = .ok (.iload_n 2, 1) := by decide +kernel
theorem dX8_readWall_82 : decode cX8_readWall 82 = .ok (.aload_n 0, 1) := by decide +kernel
theorem dX8_readWall_83 : decode cX8_readWall 83 = .ok (.getfield 106, 3) := by decide +kernel
theorem dX8_readWall_86 : decode cX8_readWall 86 = .ok (.if_icmp .ge 93, 3) := by decide +kernel
theorem dX8_readWall_89 : decode cX8_readWall 89 = .ok (.aload_n 0, 1) := by decide +kernel
theorem dX8_readWall_90 : decode cX8_readWall 90 = .ok (.getfield 85, 3) := by decide +kernel
theorem dX8_readWall_93 : decode cX8_readWall 93 = .ok (.iload_n 1, 1) := by decide +kernel
theorem dX8_readWall_94 : decode cX8_readWall 94 = .ok (.if_icmp .ge 17, 3) := by decide +kernel
theorem dX8_readWall_97 : decode cX8_readWall 97 = .ok (.aload_n 0, 1) := by decide +kernel
theorem dX8_readWall_98 : decode cX8_readWall 98 = .ok (.getfield 16, 3) := by decide +kernel
theorem dX8_readWall_101 : decode cX8_readWall 101 = .ok (.aload_n 0, 1) := by decide +kernel
theorem dX8_readWall_102 : decode cX8_readWall 102 = .ok (.getfield 85, 3) := by decide +kernel
theorem dX8_readWall_105 : decode cX8_readWall 105 = .ok (.iaload, 1) := by decide +kernel
theorem dX8_readWall_106 : decode cX8_readWall 106 = .ok (.bipush 59, 2) := by decide +kernel
theorem dX8_readWall_108 : decode cX8_readWall 108 = .ok (.if_icmp .eq 5, 3) := by decide +kernel
theorem dX8_readWall_111 : decode cX8_readWall 111 = .ok (.iconst 0, 1) := by decide +kernel
theorem dX8_readWall_112 : decode cX8_readWall 112 = .ok (.ireturn, 1) := by decide +kernel
theorem dX8_readWall_113 : decode cX8_readWall 113 = .ok (.aload_n 0, 1) := by decide +kernel
theorem dX8_readWall_114 : decode cX8_readWall 114 = .ok (.dup, 1) := by decide +kernel
theorem dX8_readWall_115 : decode cX8_readWall 115 = .ok (.getfield 85, 3) := by decide +kernel
theorem dX8_readWall_118 : decode cX8_readWall 118 = .ok (.iconst 1, 1) := by decide +kernel
theorem dX8_readWall_119 : decode cX8_readWall 119 = .ok (.iadd, 1) := by decide +kernel
theorem dX8_readWall_120 : decode cX8_readWall 120 = .ok (.putfield 85, 3) := by decide +kernel
theorem dX8_readWall_123 : decode cX8_readWall 123 = .ok (.iconst 0, 1) := by decide +kernel
theorem dX8_readWall_124 : decode cX8_readWall 124 = .ok (.istore_n 3, 1) := by decide +kernel
theorem dX8_readWall_125 : decode cX8_readWall 125 = .ok (.iload_n 3, 1) := by decide +kernel
theorem dX8_readWall_126 : decode cX8_readWall 126 = .ok (.aload_n 0, 1) := by decide +kernel
theorem dX8_readWall_127 : decode cX8_readWall 127 = .ok (.getfield 109, 3) := by decide +kernel
theorem dX8_readWall_130 : decode cX8_readWall 130 = .ok (.if_icmp .ge 43, 3) := by decide +kernel
theorem dX8_readWall_133 : decode cX8_readWall 133 = .ok (.aload_n 0, 1) := by decide +kernel
theorem dX8_readWall_134 : decode cX8_readWall 134 = .ok (.iload_n 1, 1) := by decide +kernel
theorem dX8_readWall_135 : decode cX8_readWall 135 = .ok (.iconst 0, 1) := by decide +kernel
theorem dX8_readWall_136 : decode cX8_readWall 136 = .ok (.bipush 9, 2) := by decide +kernel
theorem dX8_readWall_138 : decode cX8_readWall 138 = .ok (.invokevirtual 130, 3) := by decide +kernel
theorem dX8_readWall_141 : decode cX8_readWall 141 = .ok (.istore 4, 2) := by decide +kernel
theorem dX8_readWall_143 : decode cX8_readWall 143 = .ok (.iload 4, 2) := by decide +kernel
theorem dX8_readWall_145 : decode cX8_readWall 145 = .ok (.bipush (-9), 2) := by decide +kernel
theorem dX8_readWall_147 : decode cX8_readWall 147 = .ok (.if_icmp .ne 5, 3) := by decide +kernel
theorem dX8_readWall_150 : decode cX8_readWall 150 = .ok (.iconst 0, 1) := by decide +kernel
theorem dX8_readWall_151 : decode cX8_readWall 151 = .ok (.ireturn, 1) := by decide +kernel
theorem dX8_readWall_152 : decode cX8_readWall 152 = .ok (.aload_n 0, 1) := by decide +kernel
theorem dX8_readWall_153 : decode cX8_readWall 153 = .ok (.getfield 35, 3) := by decide +kernel
theorem dX8_readWall_156 : decode cX8_readWall 156 = .ok (.aload_n 0, 1) := by decide +kernel
theorem dX8_readWall_157 : decode cX8_readWall 157 = .ok (.getfield 109, 3) := by decide +kernel
theorem dX8_readWall_160 : decode cX8_readWall 160 = .ok (.iload_n 2, 1) := by decide +kernel
theorem dX8_readWall_161 : decode cX8_readWall 161 = .ok (.imul, 1) := by decide +kernel
theorem dX8_readWall_162 : decode cX8_readWall 162 = .ok (.iload_n 3, 1) := by decide +kernel
theorem dX8_readWall_163 : decode cX8_readWall 163 = .ok (.iadd, 1) := by decide +kernel
theorem dX8_readWall_164 : decode cX8_readWall 164 = .ok (.iload 4, 2) := by decide +kernel
theorem dX8_readWall_166 : decode cX8_readWall 166 = .ok (.iastore, 1) := by decide +kernel
theorem dX8_readWall_167 : decode cX8_readWall 167 = .ok (.iinc 3 1, 3) := by decide +kernel
theorem dX8_readWall_170 : decode cX8_readWall 170 = .ok (.goto (-45), 3) := by decide +kernel
theorem dX8_readWall_173 : decode cX8_readWall 173 = .ok (.iinc 2 1, 3) := by decide +kernel
theorem dX8_readWall_176 : decode cX8_readWall 176 = .ok (.goto (-95), 3) := by decide +kernel
theorem dX8_readWall_179 : decode cX8_readWall 179 = .ok (.aload_n 0, 1) := by decide +kernel
theorem dX8_readWall_180 : decode cX8_readWall 180 = .ok (.getfield 85, 3) := by decide +kernel
theorem dX8_readWall_183 : decode cX8_readWall 183 = .ok (.iload_n 1, 1) := by decide +kernel
theorem dX8_readWall_184 : decode cX8_readWall 184 = .ok (.if_icmp .ne 7, 3) := by decide +kernel
theorem dX8_readWall_187 : decode cX8_readWall 187 = .ok (.iconst 1, 1) := by decide +kernel
theorem dX8_readWall_188 : decode cX8_readWall 188 = .ok (.goto 4, 3) := by decide +kernel
theorem dX8_readWall_191 : decode cX8_readWall 191 = .ok (.iconst 0, 1) := by decide +kernel
theorem dX8_readWall_192 : decode cX8_readWall 192 = .ok (.ireturn, 1) := by decide +kernel
set_option maxRecDepth 20000 in
theorem ggX8_ofCell_X8_isCell : GoodIn wsX8_ofCell wsX8_isCell := goodIn_r _ [10, 11, 12, 13, 9, 14, 15, 16, 17, 18, 19, 20, 21, 22, 23, 24, 25, 26, 27, 28, 29, 30, 31, 32, 33, 34, 35, 36, 37, 38, 39, 40, 41, 42, 43, 44, 45, 46, 47, 48, 49, 50, 51] (by decide +kernel) (by decide +kernel)
set_option maxRecDepth 20000 in
theorem gX8_ofCell_X8_isCell : GoodIn wsX8_ofCell (wsV RX8 134 RX8 yX8_isCell wsX8_isCell) := goodIn_app (goodIn_of _ (by decide +kernel)) ggX8_ofCell_X8_isCell
theorem dX8_ofCell_0 : decode cX8_ofCell 0 = .ok (.aload_n 0, 1) := by decide +kernel
theorem dX8_ofCell_1 : decode cX8_ofCell 1 = .ok (.iload_n 1, 1) := by decide +kernel
theorem dX8_ofCell_2 : decode cX8_ofCell 2 = .ok (.invokevirtual 134, 3) := by decide +kernel
theorem dX8_ofCell_5 : decode cX8_ofCell 5 = .ok (.ifCond .ne 5, 3) := by decide +kernel
theorem dX8_ofCell_8 : decode cX8_ofCell 8 = .ok (.iconst (-1), 1) := by decide +kernel
theorem dX8_ofCell_9 : decode cX8_ofCell 9 = .ok (.ireturn, 1) := by decide +kernel
theorem dX8_ofCell_10 : decode cX8_ofCell 10 = .ok (.iload_n 2, 1) := by decide +kernel
theorem dX8_ofCell_11 : decode cX8_ofCell 11 = .ok (.tableswitch 76 0 4 #[33, 40, 47, 54, 61], 33) := by decide +kernel
theorem dX8_ofCell_44 : decode cX8_ofCell 44 = .ok (.aload_n 0, 1) := by decide +kernel
theorem dX8_ofCell_45 : decode cX8_ofCell 45 = .ok (.getfield 19, 3) := by decide +kernel
theorem dX8_ofCell_48 : decode cX8_ofCell 48 = .ok (.iload_n 1, 1) := by decide +kernel
theorem dX8_ofCell_49 : decode cX8_ofCell 49 = .ok (.iaload, 1) := by decide +kernel
theorem dX8_ofCell_50 : decode cX8_ofCell 50 = .ok (.ireturn, 1) := by decide +kernel
theorem dX8_ofCell_51 : decode cX8_ofCell 51 = .ok (.aload_n 0, 1) := by decide +kernel
theorem dX8_ofCell_52 : decode cX8_ofCell 52 = .ok (.getfield 22, 3) := by decide +kernel
theorem dX8_ofCell_55 : decode cX8_ofCell 55 = .ok (.iload_n 1, 1) := by decide +kernel
theorem dX8_ofCell_56 : decode cX8_ofCell 56 = .ok (.iaload, 1) := by decide +kernel
theorem dX8_ofCell_57 : decode cX8_ofCell 57 = .ok (.ireturn, 1) := by decide +kernel
theorem dX8_ofCell_58 : decode cX8_ofCell 58 = .ok (.aload_n 0, 1) := by decide +kernel
theorem dX8_ofCell_59 : decode cX8_ofCell 59 = .ok (.getfield 25, 3) := by decide +kernel
theorem dX8_ofCell_62 : decode cX8_ofCell 62 = .ok (.iload_n 1, 1) := by decide +kernel
theorem dX8_ofCell_63 : decode cX8_ofCell 63 = .ok (.iaload, 1) := by decide +kernel
theorem dX8_ofCell_64 : decode cX8_ofCell 64 = .ok (.ireturn, 1) := by decide +kernel
theorem dX8_ofCell_65 : decode cX8_ofCell 65 = .ok (.aload_n 0, 1) := by decide +kernel
theorem dX8_ofCell_66 : decode cX8_ofCell 66 = .ok (.getfield 28, 3) := by decide +kernel
theorem dX8_ofCell_69 : decode cX8_ofCell 69 = .ok (.iload_n 1, 1) := by decide +kernel
theorem dX8_ofCell_70 : decode cX8_ofCell 70 = .ok (.iaload, 1) := by decide +kernel
theorem dX8_ofCell_71 : decode cX8_ofCell 71 = .ok (.ireturn, 1) := by decide +kernel
theorem dX8_ofCell_72 : decode cX8_ofCell 72 = .ok (.aload_n 0, 1) := by decide +kernel
theorem dX8_ofCell_73 : decode cX8_ofCell 73 = .ok (.getfield 31, 3) := by decide +kernel
theorem dX8_ofCell_76 : decode cX8_ofCell 76 = .ok (.iload_n 1, 1) := by decide +kernel
theorem dX8_ofCell_77 : decode cX8_ofCell 77 = .ok (.baload, 1) := by decide +kernel
theorem dX8_ofCell_78 : decode cX8_ofCell 78 = .ok (.ifCond .eq 7, 3) := by decide +kernel
theorem dX8_ofCell_81 : decode cX8_ofCell 81 = .ok (.iconst 1, 1) := by decide +kernel
theorem dX8_ofCell_82 : decode cX8_ofCell 82 = .ok (.goto 4, 3) := by decide +kernel
theorem dX8_ofCell_85 : decode cX8_ofCell 85 = .ok (.iconst 0, 1) := by decide +kernel
theorem dX8_ofCell_86 : decode cX8_ofCell 86 = .ok (.ireturn, 1) := by decide +kernel
theorem dX8_ofCell_87 : decode cX8_ofCell 87 = .ok (.bipush (-2), 2) := by decide +kernel
theorem dX8_ofCell_89 : decode cX8_ofCell 89 = .ok (.ireturn, 1) := by decide +kernel
set_option maxRecDepth 20000 in
theorem ggX8_set_X8_within : GoodIn wsX8_set wsX8_within := goodIn_r _ [6] (by decide +kernel) (by decide +kernel)
set_option maxRecDepth 20000 in
theorem gX8_set_X8_within : GoodIn wsX8_set (va_wsS RX8 71 yX8_within wsX8_within) := goodIn_app (goodIn_of _ (by decide +kernel)) ggX8_set_X8_within
set_option maxRecDepth 20000 in
theorem ggX8_set_X8_all : GoodIn wsX8_set wsX8_all := goodIn_r _ [10, 11, 12, 13, 14, 15, 16, 17, 18, 19, 20, 21, 22, 23, 24, 25, 26, 27, 28, 29, 30, 31, 32, 33, 34, 35, 36, 37, 38, 39, 40, 41, 42, 43, 44, 45, 46, 47] (by decide +kernel) (by decide +kernel)
set_option maxRecDepth 20000 in
theorem gX8_set_X8_all : GoodIn wsX8_set (wsV RX8 81 RX8 yX8_all wsX8_all) := goodIn_app (goodIn_of _ (by decide +kernel)) ggX8_set_X8_all
theorem dX8_set_0 : decode cX8_set 0 = .ok (.iload_n 1, 1) := by decide +kernel
theorem dX8_set_1 : decode cX8_set 1 = .ok (.iconst 0, 1) := by decide +kernel
theorem dX8_set_2 : decode cX8_set 2 = .ok (.iconst 1, 1) := by decide +kernel
theorem dX8_set_3 : decode cX8_set 3 = .ok (.invokestatic 71, 3) := by decide +kernel
theorem dX8_set_6 : decode cX8_set 6 = .ok (.ifCond .eq 23, 3) := by decide +kernel
theorem dX8_set_9 : decode cX8_set 9 = .ok (.iload_n 2, 1) := by decide +kernel
theorem dX8_set_10 : decode cX8_set 10 = .ok (.iconst 0, 1) := by decide +kernel
theorem dX8_set_11 : decode cX8_set 11 = .ok (.iload_n 1, 1) := by decide +kernel
theorem dX8_set_12 : decode cX8_set 12 = .ok (.ifCond .ne 8, 3) := by decide +kernel
theorem dX8_set_15 : decode cX8_set 15 = .ok (.bipush 9, 2) := by decide +kernel
theorem dX8_set_17 : decode cX8_set 17 = .ok (.goto 6, 3) := by decide +kernel
theorem dX8_set_20 : decode cX8_set 20 = .ok (.sipush 999, 3) := by decide +kernel
theorem dX8_set_23 : decode cX8_set 23 = .ok (.invokestatic 71, 3) := by decide +kernel
theorem dX8_set_26 : decode cX8_set 26 = .ok (.ifCond .ne 6, 3) := by decide +kernel
theorem dX8_set_29 : decode cX8_set 29 = .ok (.bipush (-2), 2) := by decide +kernel
theorem dX8_set_31 : decode cX8_set 31 = .ok (.ireturn, 1) := by decide +kernel
theorem dX8_set_32 : decode cX8_set 32 = .ok (.aload_n 0, 1) := by decide +kernel
theorem dX8_set_33 : decode cX8_set 33 = .ok (.invokevirtual 81, 3) := by decide +kernel
theorem dX8_set_36 : decode cX8_set 36 = .ok (.ifCond .ne 6, 3) := by decide +kernel
theorem dX8_set_39 : decode cX8_set 39 = .ok (.bipush (-3), 2) := by decide +kernel
theorem dX8_set_41 : decode cX8_set 41 = .ok (.ireturn, 1) := by decide +kernel
theorem dX8_set_42 : decode cX8_set 42 = .ok (.iload_n 1, 1) := by decide +kernel
theorem dX8_set_43 : decode cX8_set 43 = .ok (.ifCond .ne 10, 3) := by decide +kernel
theorem dX8_set_46 : decode cX8_set 46 = .ok (.aload_n 0, 1) := by decide +kernel
theorem dX8_set_47 : decode cX8_set 47 = .ok (.getfield 115, 3) := by decide +kernel
theorem dX8_set_50 : decode cX8_set 50 = .ok (.goto 7, 3) := by decide +kernel
theorem dX8_set_53 : decode cX8_set 53 = .ok (.aload_n 0, 1) := by decide +kernel
theorem dX8_set_54 : decode cX8_set 54 = .ok (.getfield 118, 3) := by decide +kernel
theorem dX8_set_57 : decode cX8_set 57 = .ok (.istore_n 3, 1) := by decide +kernel
theorem dX8_set_58 : decode cX8_set 58 = .ok (.aload_n 0, 1) := by decide +kernel
theorem dX8_set_59 : decode cX8_set 59 = .ok (.iload_n 1, 1) := by decide +kernel
theorem dX8_set_60 : decode cX8_set 60 = .ok (.ifCond .ne 7, 3) := by decide +kernel
theorem dX8_set_63 : decode cX8_set 63 = .ok (.iload_n 2, 1) := by decide +kernel
theorem dX8_set_64 : decode cX8_set 64 = .ok (.goto 7, 3) := by decide +kernel
theorem dX8_set_67 : decode cX8_set 67 = .ok (.aload_n 0, 1) := by decide +kernel
theorem dX8_set_68 : decode cX8_set 68 = .ok (.getfield 115, 3) := by decide +kernel
theorem dX8_set_71 : decode cX8_set 71 = .ok (.putfield 115, 3) := by decide +kernel
theorem dX8_set_74 : decode cX8_set 74 = .ok (.aload_n 0, 1) := by decide +kernel
theorem dX8_set_75 : decode cX8_set 75 = .ok (.iload_n 1, 1) := by decide +kernel
theorem dX8_set_76 : decode cX8_set 76 = .ok (.iconst 1, 1) := by decide +kernel
theorem dX8_set_77 : decode cX8_set 77 = .ok (.if_icmp .ne 7, 3) := by decide +kernel
theorem dX8_set_80 : decode cX8_set 80 = .ok (.iload_n 2, 1) := by decide +kernel
theorem dX8_set_81 : decode cX8_set 81 = .ok (.goto 7, 3) := by decide +kernel
theorem dX8_set_84 : decode cX8_set 84 = .ok (.aload_n 0, 1) := by decide +kernel
theorem dX8_set_85 : decode cX8_set 85 = .ok (.getfield 118, 3) := by decide +kernel
theorem dX8_set_88 : decode cX8_set 88 = .ok (.putfield 118, 3) := by decide +kernel
theorem dX8_set_91 : decode cX8_set 91 = .ok (.iload_n 3, 1) := by decide +kernel
theorem dX8_set_92 : decode cX8_set 92 = .ok (.ireturn, 1) := by decide +kernel
set_option maxRecDepth 20000 in
theorem ggX8_years_X8_within : GoodIn wsX8_years wsX8_within := goodIn_r _ [9] (by decide +kernel) (by decide +kernel)
set_option maxRecDepth 20000 in
theorem gX8_years_X8_within : GoodIn wsX8_years (va_wsS RX8 71 yX8_within wsX8_within) := goodIn_app (goodIn_of _ (by decide +kernel)) ggX8_years_X8_within
set_option maxRecDepth 20000 in
theorem ggX8_years_X8_all : GoodIn wsX8_years wsX8_all := goodIn_r _ [13, 14, 15, 16, 17, 18, 19, 20, 21, 22, 23, 24, 25, 26, 27, 28, 29, 30, 31, 32, 33, 34, 35, 36, 37, 38, 39, 40, 41, 42, 43, 44, 45, 46, 47, 48, 49, 50] (by decide +kernel) (by decide +kernel)
set_option maxRecDepth 20000 in
theorem gX8_years_X8_all : GoodIn wsX8_years (wsV RX8 81 RX8 yX8_all wsX8_all) := goodIn_app (goodIn_of _ (by decide +kernel)) ggX8_years_X8_all
theorem dX8_years_0 : decode cX8_years 0 = .ok (.iload_n 1, 1) := by decide +kernel
theorem dX8_years_1 : decode cX8_years 1 = .ok (.iconst 0, 1) := by decide +kernel
theorem dX8_years_2 : decode cX8_years 2 = .ok (.bipush 40, 2) := by decide +kernel
theorem dX8_years_4 : decode cX8_years 4 = .ok (.invokestatic 71, 3) := by decide +kernel
theorem dX8_years_7 : decode cX8_years 7 = .ok (.ifCond .eq 14, 3) := by decide +kernel
theorem dX8_years_10 : decode cX8_years 10 = .ok (.aload_n 0, 1) := by decide +kernel
theorem dX8_years_11 : decode cX8_years 11 = .ok (.getfield 112, 3) := by decide +kernel
theorem dX8_years_14 : decode cX8_years 14 = .ok (.iload_n 1, 1) := by decide +kernel
theorem dX8_years_15 : decode cX8_years 15 = .ok (.iadd, 1) := by decide +kernel
theorem dX8_years_16 : decode cX8_years 16 = .ok (.bipush 40, 2) := by decide +kernel
theorem dX8_years_18 : decode cX8_years 18 = .ok (.if_icmp .le 6, 3) := by decide +kernel
theorem dX8_years_21 : decode cX8_years 21 = .ok (.bipush (-2), 2) := by decide +kernel
theorem dX8_years_23 : decode cX8_years 23 = .ok (.ireturn, 1) := by decide +kernel
theorem dX8_years_24 : decode cX8_years 24 = .ok (.aload_n 0, 1) := by decide +kernel
theorem dX8_years_25 : decode cX8_years 25 = .ok (.invokevirtual 81, 3) := by decide +kernel
theorem dX8_years_28 : decode cX8_years 28 = .ok (.ifCond .ne 6, 3) := by decide +kernel
theorem dX8_years_31 : decode cX8_years 31 = .ok (.bipush (-3), 2) := by decide +kernel
theorem dX8_years_33 : decode cX8_years 33 = .ok (.ireturn, 1) := by decide +kernel
theorem dX8_years_34 : decode cX8_years 34 = .ok (.iconst 0, 1) := by decide +kernel
theorem dX8_years_35 : decode cX8_years 35 = .ok (.istore_n 2, 1) := by decide +kernel
theorem dX8_years_36 : decode cX8_years 36 = .ok (.iload_n 2, 1) := by decide +kernel
theorem dX8_years_37 : decode cX8_years 37 = .ok (.aload_n 0, 1) := by decide +kernel
theorem dX8_years_38 : decode cX8_years 38 = .ok (.invokevirtual 81, 3) := by decide +kernel
theorem dX8_years_41 : decode cX8_years 41 = .ok (.if_icmp .ge 45, 3) := by decide +kernel
theorem dX8_years_44 : decode cX8_years 44 = .ok (.aload_n 0, 1) := by decide +kernel
theorem dX8_years_45 : decode cX8_years 45 = .ok (.getfield 31, 3) := by decide +kernel
theorem dX8_years_48 : decode cX8_years 48 = .ok (.iload_n 2, 1) := by decide +kernel
theorem dX8_years_49 : decode cX8_years 49 = .ok (.baload, 1) := by decide +kernel
theorem dX8_years_50 : decode cX8_years 50 = .ok (.ifCond .ne 30, 3) := by decide +kernel
theorem dX8_years_53 : decode cX8_years 53 = .ok (.aload_n 0, 1) := by decide +kernel
theorem dX8_years_54 : decode cX8_years 54 = .ok (.getfield 25, 3) := by decide +kernel
theorem dX8_years_57 : decode cX8_years 57 = .ok (.iload_n 2, 1) := by decide +kernel
theorem dX8_years_58 : decode cX8_years 58 = .ok (.dup2, 1) := by decide +kernel
theorem dX8_years_59 : decode cX8_years 59 = .ok (.iaload, 1) := by decide +kernel
theorem dX8_years_60 : decode cX8_years 60 = .ok (.iload_n 1, 1) := by decide +kernel
theorem dX8_years_61 : decode cX8_years 61 = .ok (.aload_n 0, 1) := by decide +kernel
theorem dX8_years_62 : decode cX8_years 62 = .ok (.getfield 19, 3) := by decide +kernel
theorem dX8_years_65 : decode cX8_years 65 = .ok (.iload_n 2, 1) := by decide +kernel
theorem dX8_years_66 : decode cX8_years 66 = .ok (.iaload, 1) := by decide +kernel
theorem dX8_years_67 : decode cX8_years 67 = .ok (.imul, 1) := by decide +kernel
theorem dX8_years_68 : decode cX8_years 68 = .ok (.iadd, 1) := by decide +kernel
theorem dX8_years_69 : decode cX8_years 69 = .ok (.iastore, 1) := by decide +kernel
theorem dX8_years_70 : decode cX8_years 70 = .ok (.aload_n 0, 1) := by decide +kernel
theorem dX8_years_71 : decode cX8_years 71 = .ok (.getfield 28, 3) := by decide +kernel
theorem dX8_years_74 : decode cX8_years 74 = .ok (.iload_n 2, 1) := by decide +kernel
theorem dX8_years_75 : decode cX8_years 75 = .ok (.dup2, 1) := by decide +kernel
theorem dX8_years_76 : decode cX8_years 76 = .ok (.iaload, 1) := by decide +kernel
theorem dX8_years_77 : decode cX8_years 77 = .ok (.iload_n 1, 1) := by decide +kernel
theorem dX8_years_78 : decode cX8_years 78 = .ok (.iadd, 1) := by decide +kernel
theorem dX8_years_79 : decode cX8_years 79 = .ok (.iastore, 1) := by decide +kernel
theorem dX8_years_80 : decode cX8_years 80 = .ok (.iinc 2 1, 3) := by decide +kernel
theorem dX8_years_83 : decode cX8_years 83 = .ok (.goto (-47), 3) := by decide +kernel
theorem dX8_years_86 : decode cX8_years 86 = .ok (.aload_n 0, 1) := by decide +kernel
theorem dX8_years_87 : decode cX8_years 87 = .ok (.dup, 1) := by decide +kernel
theorem dX8_years_88 : decode cX8_years 88 = .ok (.getfield 112, 3) := by decide +kernel
theorem dX8_years_91 : decode cX8_years 91 = .ok (.iload_n 1, 1) := by decide +kernel
theorem dX8_years_92 : decode cX8_years 92 = .ok (.iadd, 1) := by decide +kernel
theorem dX8_years_93 : decode cX8_years 93 = .ok (.putfield 112, 3) := by decide +kernel
theorem dX8_years_96 : decode cX8_years 96 = .ok (.aload_n 0, 1) := by decide +kernel
theorem dX8_years_97 : decode cX8_years 97 = .ok (.getfield 112, 3) := by decide +kernel
theorem dX8_years_100 : decode cX8_years 100 = .ok (.ireturn, 1) := by decide +kernel
set_option maxRecDepth 20000 in
theorem ggX8_hang_X8_isCell : GoodIn wsX8_hang wsX8_isCell := goodIn_r _ [6, 7, 8, 9, 5, 10, 11, 12, 13, 14, 15, 16, 17, 18, 19, 20, 21, 22, 23, 24, 25, 26, 27, 28, 29, 30, 31, 32, 33, 34, 35, 36, 37, 38, 39, 40, 41, 42, 43, 44, 45, 46, 47] (by decide +kernel) (by decide +kernel)
set_option maxRecDepth 20000 in
theorem gX8_hang_X8_isCell : GoodIn wsX8_hang (wsV RX8 134 RX8 yX8_isCell wsX8_isCell) := goodIn_app (goodIn_of _ (by decide +kernel)) ggX8_hang_X8_isCell
theorem dX8_hang_0 : decode cX8_hang 0 = .ok (.aload_n 0, 1) := by decide +kernel
theorem dX8_hang_1 : decode cX8_hang 1 = .ok (.iload_n 1, 1) := by decide +kernel
theorem dX8_hang_2 : decode cX8_hang 2 = .ok (.invokevirtual 134, 3) := by decide +kernel
theorem dX8_hang_5 : decode cX8_hang 5 = .ok (.ifCond .ne 5, 3) := by decide +kernel
theorem dX8_hang_8 : decode cX8_hang 8 = .ok (.iconst (-1), 1) := by decide +kernel
theorem dX8_hang_9 : decode cX8_hang 9 = .ok (.ireturn, 1) := by decide +kernel
theorem dX8_hang_10 : decode cX8_hang 10 = .ok (.aload_n 0, 1) := by decide +kernel
theorem dX8_hang_11 : decode cX8_hang 11 = .ok (.getfield 31, 3) := by decide +kernel
theorem dX8_hang_14 : decode cX8_hang 14 = .ok (.iload_n 1, 1) := by decide +kernel
theorem dX8_hang_15 : decode cX8_hang 15 = .ok (.baload, 1) := by decide +kernel
theorem dX8_hang_16 : decode cX8_hang 16 = .ok (.istore_n 3, 1) := by decide +kernel
theorem dX8_hang_17 : decode cX8_hang 17 = .ok (.aload_n 0, 1) := by decide +kernel
theorem dX8_hang_18 : decode cX8_hang 18 = .ok (.getfield 31, 3) := by decide +kernel
theorem dX8_hang_21 : decode cX8_hang 21 = .ok (.iload_n 1, 1) := by decide +kernel
theorem dX8_hang_22 : decode cX8_hang 22 = .ok (.iload_n 2, 1) := by decide +kernel
theorem dX8_hang_23 : decode cX8_hang 23 = .ok (.bastore, 1) := by decide +kernel
theorem dX8_hang_24 : decode cX8_hang 24 = .ok (.iload_n 3, 1) := by decide +kernel
theorem dX8_hang_25 : decode cX8_hang 25 = .ok (.iload_n 2, 1) := by decide +kernel
theorem dX8_hang_26 : decode cX8_hang 26 = .ok (.if_icmp .ne 7, 3) := by decide +kernel
theorem dX8_hang_29 : decode cX8_hang 29 = .ok (.iconst 0, 1) := by decide +kernel
theorem dX8_hang_30 : decode cX8_hang 30 = .ok (.goto 4, 3) := by decide +kernel
theorem dX8_hang_33 : decode cX8_hang 33 = .ok (.iconst 1, 1) := by decide +kernel
theorem dX8_hang_34 : decode cX8_hang 34 = .ok (.ireturn, 1) := by decide +kernel
theorem dX8_isCoat_0 : decode cX8_isCoat 0 = .ok (.iload_n 1, 1) := by decide +kernel
theorem dX8_isCoat_1 : decode cX8_isCoat 1 = .ok (.ifCond .lt 15, 3) := by decide +kernel
theorem dX8_isCoat_4 : decode cX8_isCoat 4 = .ok (.iload_n 1, 1) := by decide +kernel
theorem dX8_isCoat_5 : decode cX8_isCoat 5 = .ok (.aload_n 0, 1) := by decide +kernel
theorem dX8_isCoat_6 : decode cX8_isCoat 6 = .ok (.getfield 124, 3) := by decide +kernel
theorem dX8_isCoat_9 : decode cX8_isCoat 9 = .ok (.if_icmp .ge 7, 3) := by decide +kernel
theorem dX8_isCoat_12 : decode cX8_isCoat 12 = .ok (.iconst 1, 1) := by decide +kernel
theorem dX8_isCoat_13 : decode cX8_isCoat 13 = .ok (.goto 4, 3) := by decide +kernel
theorem dX8_isCoat_16 : decode cX8_isCoat 16 = .ok (.iconst 0, 1) := by decide +kernel
theorem dX8_isCoat_17 : decode cX8_isCoat 17 = .ok (.ireturn, 1) := by decide +kernel
theorem dX8_isLight_0 : decode cX8_isLight 0 = .ok (.iload_n 1, 1) := by decide +kernel
theorem dX8_isLight_1 : decode cX8_isLight 1 = .ok (.ifCond .lt 15, 3) := by decide +kernel
theorem dX8_isLight_4 : decode cX8_isLight 4 = .ok (.iload_n 1, 1) := by decide +kernel
theorem dX8_isLight_5 : decode cX8_isLight 5 = .ok (.aload_n 0, 1) := by decide +kernel
theorem dX8_isLight_6 : decode cX8_isLight 6 = .ok (.getfield 121, 3) := by decide +kernel
theorem dX8_isLight_9 : decode cX8_isLight 9 = .ok (.if_icmp .ge 7, 3) := by decide +kernel
theorem dX8_isLight_12 : decode cX8_isLight 12 = .ok (.iconst 1, 1) := by decide +kernel
theorem dX8_isLight_13 : decode cX8_isLight 13 = .ok (.goto 4, 3) := by decide +kernel
theorem dX8_isLight_16 : decode cX8_isLight 16 = .ok (.iconst 0, 1) := by decide +kernel
theorem dX8_isLight_17 : decode cX8_isLight 17 = .ok (.ireturn, 1) := by decide +kernel
theorem dX8_addCoat_0 : decode cX8_addCoat 0 = .ok (.aload_n 0, 1) := by decide +kernel
theorem dX8_addCoat_1 : decode cX8_addCoat 1 = .ok (.getfield 38, 3) := by decide +kernel
theorem dX8_addCoat_4 : decode cX8_addCoat 4 = .ok (.aload_n 0, 1) := by decide +kernel
theorem dX8_addCoat_5 : decode cX8_addCoat 5 = .ok (.getfield 124, 3) := by decide +kernel
theorem dX8_addCoat_8 : decode cX8_addCoat 8 = .ok (.iload_n 1, 1) := by decide +kernel
theorem dX8_addCoat_9 : decode cX8_addCoat 9 = .ok (.iastore, 1) := by decide +kernel
theorem dX8_addCoat_10 : decode cX8_addCoat 10 = .ok (.aload_n 0, 1) := by decide +kernel
theorem dX8_addCoat_11 : decode cX8_addCoat 11 = .ok (.getfield 41, 3) := by decide +kernel
theorem dX8_addCoat_14 : decode cX8_addCoat 14 = .ok (.iconst 3, 1) := by decide +kernel
theorem dX8_addCoat_15 : decode cX8_addCoat 15 = .ok (.aload_n 0, 1) := by decide +kernel
theorem dX8_addCoat_16 : decode cX8_addCoat 16 = .ok (.getfield 124, 3) := by decide +kernel
theorem dX8_addCoat_19 : decode cX8_addCoat 19 = .ok (.imul, 1) := by decide +kernel
theorem dX8_addCoat_20 : decode cX8_addCoat 20 = .ok (.iload_n 2, 1) := by decide +kernel
theorem dX8_addCoat_21 : decode cX8_addCoat 21 = .ok (.iastore, 1) := by decide +kernel
theorem dX8_addCoat_22 : decode cX8_addCoat 22 = .ok (.aload_n 0, 1) := by decide +kernel
theorem dX8_addCoat_23 : decode cX8_addCoat 23 = .ok (.getfield 41, 3) := by decide +kernel
theorem dX8_addCoat_26 : decode cX8_addCoat 26 = .ok (.iconst 3, 1) := by decide +kernel
theorem dX8_addCoat_27 : decode cX8_addCoat 27 = .ok (.aload_n 0, 1) := by decide +kernel
theorem dX8_addCoat_28 : decode cX8_addCoat 28 = .ok (.getfield 124, 3) := by decide +kernel
theorem dX8_addCoat_31 : decode cX8_addCoat 31 = .ok (.imul, 1) := by decide +kernel
theorem dX8_addCoat_32 : decode cX8_addCoat 32 = .ok (.iconst 1, 1) := by decide +kernel
theorem dX8_addCoat_33 : decode cX8_addCoat 33 = .ok (.iadd, 1) := by decide +kernel
theorem dX8_addCoat_34 : decode cX8_addCoat 34 = .ok (.iload_n 3, 1) := by decide +kernel
theorem dX8_addCoat_35 : decode cX8_addCoat 35 = .ok (.iastore, 1) := by decide +kernel
theorem dX8_addCoat_36 : decode cX8_addCoat 36 = .ok (.aload_n 0, 1) := by decide +kernel
theorem dX8_addCoat_37 : decode cX8_addCoat 37 = .ok (.getfield 41, 3) := by decide +kernel
theorem dX8_addCoat_40 : decode cX8_addCoat 40 = .ok (.iconst 3, 1) := by decide +kernel
theorem dX8_addCoat_41 : decode cX8_addCoat 41 = .ok (.aload_n 0, 1) := by decide +kernel
theorem dX8_addCoat_42 : decode cX8_addCoat 42 = .ok (.getfield 124, 3) := by decide +kernel
theorem dX8_addCoat_45 : decode cX8_addCoat 45 = .ok (.imul, 1) := by decide +kernel
theorem dX8_addCoat_46 : decode cX8_addCoat 46 = .ok (.iconst 2, 1) := by decide +kernel
theorem dX8_addCoat_47 : decode cX8_addCoat 47 = .ok (.iadd, 1) := by decide +kernel
theorem dX8_addCoat_48 : decode cX8_addCoat 48 = .ok (.iload 4, 2) := by decide +kernel
theorem dX8_addCoat_50 : decode cX8_addCoat 50 = .ok (.iastore, 1) := by decide +kernel
theorem dX8_addCoat_51 : decode cX8_addCoat 51 = .ok (.aload_n 0, 1) := by decide +kernel
theorem dX8_addCoat_52 : decode cX8_addCoat 52 = .ok (.dup, 1) := by decide +kernel
theorem dX8_addCoat_53 : decode cX8_addCoat 53 = .ok (.getfield 124, 3) := by decide +kernel
theorem dX8_addCoat_56 : decode cX8_addCoat 56 = .ok (.iconst 1, 1) := by decide +kernel
theorem dX8_addCoat_57 : decode cX8_addCoat 57 = .ok (.iadd, 1) := by decide +kernel
theorem dX8_addCoat_58 : decode cX8_addCoat 58 = .ok (.putfield 124, 3) := by decide +kernel
theorem dX8_addCoat_61 : decode cX8_addCoat 61 = .ok (.aload_n 0, 1) := by decide +kernel
theorem dX8_addCoat_62 : decode cX8_addCoat 62 = .ok (.getfield 124, 3) := by decide +kernel
theorem dX8_addCoat_65 : decode cX8_addCoat 65 = .ok (.iconst 1, 1) := by decide +kernel
theorem dX8_addCoat_66 : decode cX8_addCoat 66 = .ok (.isub, 1) := by decide +kernel
theorem dX8_addCoat_67 : decode cX8_addCoat 67 = .ok (.ireturn, 1) := by decide +kernel
set_option maxRecDepth 20000 in
theorem ggX8_coat_X8_within : GoodIn wsX8_coat wsX8_within := goodIn_r _ [5] (by decide +kernel) (by decide +kernel)
set_option maxRecDepth 20000 in
theorem gX8_coat_X8_within : GoodIn wsX8_coat (va_wsS RX8 71 yX8_within wsX8_within) := goodIn_app (goodIn_of _ (by decide +kernel)) ggX8_coat_X8_within
set_option maxRecDepth 20000 in
theorem ggX8_coat_X8_all : GoodIn wsX8_coat wsX8_all := goodIn_r _ [9, 10, 11, 18, 19, 20, 21, 22, 23, 24, 25, 26, 27, 28, 29, 30, 31, 32, 33, 34, 35, 36, 37, 38, 39, 40, 41, 42, 43, 44, 45, 46, 47, 48, 49, 50, 51, 52] (by decide +kernel) (by decide +kernel)
set_option maxRecDepth 20000 in
theorem gX8_coat_X8_all : GoodIn wsX8_coat (wsV RX8 81 RX8 yX8_all wsX8_all) := goodIn_app (goodIn_of _ (by decide +kernel)) ggX8_coat_X8_all
set_option maxRecDepth 20000 in
theorem ggX8_coat_X8_addCoat : GoodIn wsX8_coat wsX8_addCoat := goodIn_r _ [15, 16, 1, 17, 18, 19, 20, 21, 22, 23, 24, 25, 26, 27, 28, 29, 30, 31, 32, 33, 34, 35, 36, 37, 38, 39, 40, 41, 42, 43, 44, 45, 46, 47, 48, 49, 50, 51, 52] (by decide +kernel) (by decide +kernel)
set_option maxRecDepth 20000 in
theorem gX8_coat_X8_addCoat : GoodIn wsX8_coat (wsV RX8 127 RX8 yX8_addCoat wsX8_addCoat) := goodIn_app (goodIn_of _ (by decide +kernel)) ggX8_coat_X8_addCoat
theorem dX8_coat_0 : decode cX8_coat 0 = .ok (.iload_n 1, 1) := by decide +kernel
theorem dX8_coat_1 : decode cX8_coat 1 = .ok (.iconst 0, 1) := by decide +kernel
theorem dX8_coat_2 : decode cX8_coat 2 = .ok (.iconst 2, 1) := by decide +kernel
theorem dX8_coat_3 : decode cX8_coat 3 = .ok (.invokestatic 71, 3) := by decide +kernel
theorem dX8_coat_6 : decode cX8_coat 6 = .ok (.ifCond .eq 34, 3) := by decide +kernel
theorem dX8_coat_9 : decode cX8_coat 9 = .ok (.iload_n 2, 1) := by decide +kernel
theorem dX8_coat_10 : decode cX8_coat 10 = .ok (.iconst 0, 1) := by decide +kernel
theorem dX8_coat_11 : decode cX8_coat 11 = .ok (.bipush 99, 2) := by decide +kernel
theorem dX8_coat_13 : decode cX8_coat 13 = .ok (.invokestatic 71, 3) := by decide +kernel
theorem dX8_coat_16 : decode cX8_coat 16 = .ok (.ifCond .eq 24, 3) := by decide +kernel
theorem dX8_coat_19 : decode cX8_coat 19 = .ok (.iload_n 3, 1) := by decide +kernel
theorem dX8_coat_20 : decode cX8_coat 20 = .ok (.iconst 0, 1) := by decide +kernel
theorem dX8_coat_21 : decode cX8_coat 21 = .ok (.bipush 99, 2) := by decide +kernel
theorem dX8_coat_23 : decode cX8_coat 23 = .ok (.invokestatic 71, 3) := by decide +kernel
theorem dX8_coat_26 : decode cX8_coat 26 = .ok (.ifCond .eq 14, 3) := by decide +kernel
theorem dX8_coat_29 : decode cX8_coat 29 = .ok (.iload 4, 2) := by decide +kernel
theorem dX8_coat_31 : decode cX8_coat 31 = .ok (.iconst 0, 1) := by decide +kernel
theorem dX8_coat_32 : decode cX8_coat 32 = .ok (.bipush 99, 2) := by decide +kernel
theorem dX8_coat_34 : decode cX8_coat 34 = .ok (.invokestatic 71, 3) := by decide +kernel
theorem dX8_coat_37 : decode cX8_coat 37 = .ok (.ifCond .ne 6, 3) := by decide +kernel
theorem dX8_coat_40 : decode cX8_coat 40 = .ok (.bipush (-2), 2) := by decide +kernel
theorem dX8_coat_42 : decode cX8_coat 42 = .ok (.ireturn, 1) := by decide +kernel
theorem dX8_coat_43 : decode cX8_coat 43 = .ok (.aload_n 0, 1) := by decide +kernel
theorem dX8_coat_44 : decode cX8_coat 44 = .ok (.invokevirtual 81, 3) := by decide +kernel
theorem dX8_coat_47 : decode cX8_coat 47 = .ok (.ifCond .ne 6, 3) := by decide +kernel
theorem dX8_coat_50 : decode cX8_coat 50 = .ok (.bipush (-3), 2) := by decide +kernel
theorem dX8_coat_52 : decode cX8_coat 52 = .ok (.ireturn, 1) := by decide +kernel
theorem dX8_coat_53 : decode cX8_coat 53 = .ok (.aload_n 0, 1) := by decide +kernel
theorem dX8_coat_54 : decode cX8_coat 54 = .ok (.getfield 124, 3) := by decide +kernel
theorem dX8_coat_57 : decode cX8_coat 57 = .ok (.bipush 6, 2) := by decide +kernel
theorem dX8_coat_59 : decode cX8_coat 59 = .ok (.if_icmp .ne 8, 3) := by decide +kernel
theorem dX8_coat_62 : decode cX8_coat 62 = .ok (.bipush (-4), 2) := by decide +kernel
theorem dX8_coat_64 : decode cX8_coat 64 = .ok (.goto 12, 3) := by decide +kernel
theorem dX8_coat_67 : decode cX8_coat 67 = .ok (.aload_n 0, 1) := by decide +kernel
theorem dX8_coat_68 : decode cX8_coat 68 = .ok (.iload_n 1, 1) := by decide +kernel
theorem dX8_coat_69 : decode cX8_coat 69 = .ok (.iload_n 2, 1) := by decide +kernel
theorem dX8_coat_70 : decode cX8_coat 70 = .ok (.iload_n 3, 1) := by decide +kernel
theorem dX8_coat_71 : decode cX8_coat 71 = .ok (.iload 4, 2) := by decide +kernel
theorem dX8_coat_73 : decode cX8_coat 73 = .ok (.invokevirtual 127, 3) := by decide +kernel
theorem dX8_coat_76 : decode cX8_coat 76 = .ok (.ireturn, 1) := by decide +kernel
set_option maxRecDepth 20000 in
theorem ggX8_ofCoat_X8_isCoat : GoodIn wsX8_ofCoat wsX8_isCoat := goodIn_r _ [7, 8, 12, 13, 14, 15, 16, 17, 18, 19, 20, 21, 22, 23, 24, 25, 26, 27, 28, 29, 30, 31, 32, 33, 34, 35, 36, 37, 38, 39, 40, 41, 42, 43, 44, 45, 46] (by decide +kernel) (by decide +kernel)
set_option maxRecDepth 20000 in
theorem gX8_ofCoat_X8_isCoat : GoodIn wsX8_ofCoat (wsV RX8 137 RX8 yX8_isCoat wsX8_isCoat) := goodIn_app (goodIn_of _ (by decide +kernel)) ggX8_ofCoat_X8_isCoat
set_option maxRecDepth 20000 in
theorem ggX8_ofCoat_X8_within : GoodIn wsX8_ofCoat wsX8_within := goodIn_r _ [11] (by decide +kernel) (by decide +kernel)
set_option maxRecDepth 20000 in
theorem gX8_ofCoat_X8_within : GoodIn wsX8_ofCoat (va_wsS RX8 71 yX8_within wsX8_within) := goodIn_app (goodIn_of _ (by decide +kernel)) ggX8_ofCoat_X8_within
theorem dX8_ofCoat_0 : decode cX8_ofCoat 0 = .ok (.aload_n 0, 1) := by decide +kernel
theorem dX8_ofCoat_1 : decode cX8_ofCoat 1 = .ok (.iload_n 1, 1) := by decide +kernel
theorem dX8_ofCoat_2 : decode cX8_ofCoat 2 = .ok (.invokevirtual 137, 3) := by decide +kernel
theorem dX8_ofCoat_5 : decode cX8_ofCoat 5 = .ok (.ifCond .ne 5, 3) := by decide +kernel
theorem dX8_ofCoat_8 : decode cX8_ofCoat 8 = .ok (.iconst (-1), 1) := by decide +kernel
theorem dX8_ofCoat_9 : decode cX8_ofCoat 9 = .ok (.ireturn, 1) := by decide +kernel
theorem dX8_ofCoat_10 : decode cX8_ofCoat 10 = .ok (.iload_n 2, 1) := by decide +kernel
theorem dX8_ofCoat_11 : decode cX8_ofCoat 11 = .ok (.iconst (-1), 1) := by decide +kernel
theorem dX8_ofCoat_12 : decode cX8_ofCoat 12 = .ok (.if_icmp .ne 12, 3) := by decide +kernel
theorem dX8_ofCoat_15 : decode cX8_ofCoat 15 = .ok (.aload_n 0, 1) := by decide +kernel
theorem dX8_ofCoat_16 : decode cX8_ofCoat 16 = .ok (.getfield 38, 3) := by decide +kernel
theorem dX8_ofCoat_19 : decode cX8_ofCoat 19 = .ok (.iload_n 1, 1) := by decide +kernel
theorem dX8_ofCoat_20 : decode cX8_ofCoat 20 = .ok (.iaload, 1) := by decide +kernel
theorem dX8_ofCoat_21 : decode cX8_ofCoat 21 = .ok (.goto 27, 3) := by decide +kernel
theorem dX8_ofCoat_24 : decode cX8_ofCoat 24 = .ok (.iload_n 2, 1) := by decide +kernel
theorem dX8_ofCoat_25 : decode cX8_ofCoat 25 = .ok (.iconst 0, 1) := by decide +kernel
theorem dX8_ofCoat_26 : decode cX8_ofCoat 26 = .ok (.iconst 2, 1) := by decide +kernel
theorem dX8_ofCoat_27 : decode cX8_ofCoat 27 = .ok (.invokestatic 71, 3) := by decide +kernel
theorem dX8_ofCoat_30 : decode cX8_ofCoat 30 = .ok (.ifCond .eq 16, 3) := by decide +kernel
theorem dX8_ofCoat_33 : decode cX8_ofCoat 33 = .ok (.aload_n 0, 1) := by decide +kernel
theorem dX8_ofCoat_34 : decode cX8_ofCoat 34 = .ok (.getfield 41, 3) := by decide +kernel
theorem dX8_ofCoat_37 : decode cX8_ofCoat 37 = .ok (.iconst 3, 1) := by decide +kernel
theorem dX8_ofCoat_38 : decode cX8_ofCoat 38 = .ok (.iload_n 1, 1) := by decide +kernel
theorem dX8_ofCoat_39 : decode cX8_ofCoat 39 = .ok (.imul, 1) := by decide +kernel
theorem dX8_ofCoat_40 : decode cX8_ofCoat 40 = .ok (.iload_n 2, 1) := by decide +kernel
theorem dX8_ofCoat_41 : decode cX8_ofCoat 41 = .ok (.iadd, 1) := by decide +kernel
theorem dX8_ofCoat_42 : decode cX8_ofCoat 42 = .ok (.iaload, 1) := by decide +kernel
theorem dX8_ofCoat_43 : decode cX8_ofCoat 43 = .ok (.goto 5, 3) := by decide +kernel
theorem dX8_ofCoat_46 : decode cX8_ofCoat 46 = .ok (.bipush (-2), 2) := by decide +kernel
theorem dX8_ofCoat_48 : decode cX8_ofCoat 48 = .ok (.ireturn, 1) := by decide +kernel
set_option maxRecDepth 20000 in
theorem ggX8_paint_X8_isCell : GoodIn wsX8_paint wsX8_isCell := goodIn_r _ [8, 9, 10, 11, 7, 12, 13, 14, 20, 21, 22, 23, 24, 25, 26, 27, 28, 29, 30, 31, 32, 33, 34, 35, 36, 37, 38, 39, 40, 41, 42, 43, 44, 45, 46, 47, 48, 49, 50, 51, 52, 53, 54] (by decide +kernel) (by decide +kernel)
set_option maxRecDepth 20000 in
theorem gX8_paint_X8_isCell : GoodIn wsX8_paint (wsV RX8 134 RX8 yX8_isCell wsX8_isCell) := goodIn_app (goodIn_of _ (by decide +kernel)) ggX8_paint_X8_isCell
set_option maxRecDepth 20000 in
theorem ggX8_paint_X8_isCoat : GoodIn wsX8_paint wsX8_isCoat := goodIn_r _ [18, 19, 20, 21, 22, 23, 24, 25, 26, 27, 28, 29, 30, 31, 32, 33, 34, 35, 36, 37, 38, 39, 40, 41, 42, 43, 44, 45, 46, 47, 48, 49, 50, 51, 52, 53, 54] (by decide +kernel) (by decide +kernel)
set_option maxRecDepth 20000 in
theorem gX8_paint_X8_isCoat : GoodIn wsX8_paint (wsV RX8 137 RX8 yX8_isCoat wsX8_isCoat) := goodIn_app (goodIn_of _ (by decide +kernel)) ggX8_paint_X8_isCoat
theorem dX8_paint_0 : decode cX8_paint 0 = .ok (.aload_n 0, 1) := by decide +kernel
theorem dX8_paint_1 : decode cX8_paint 1 = .ok (.iload_n 1, 1) := by decide +kernel
theorem dX8_paint_2 : decode cX8_paint 2 = .ok (.invokevirtual 134, 3) := by decide +kernel
theorem dX8_paint_5 : decode cX8_paint 5 = .ok (.ifCond .eq 11, 3) := by decide +kernel
theorem dX8_paint_8 : decode cX8_paint 8 = .ok (.aload_n 0, 1) := by decide +kernel
theorem dX8_paint_9 : decode cX8_paint 9 = .ok (.iload_n 2, 1) := by decide +kernel
theorem dX8_paint_10 : decode cX8_paint 10 = .ok (.invokevirtual 137, 3) := by decide +kernel
theorem dX8_paint_13 : decode cX8_paint 13 = .ok (.ifCond .ne 5, 3) := by decide +kernel
theorem dX8_paint_16 : decode cX8_paint 16 = .ok (.iconst (-1), 1) := by decide +kernel
theorem dX8_paint_17 : decode cX8_paint 17 = .ok (.ireturn, 1) := by decide +kernel
theorem dX8_paint_18 : decode cX8_paint 18 = .ok (.aload_n 0, 1) := by decide +kernel
theorem dX8_paint_19 : decode cX8_paint 19 = .ok (.getfield 22, 3) := by decide +kernel
theorem dX8_paint_22 : decode cX8_paint 22 = .ok (.iload_n 1, 1) := by decide +kernel
theorem dX8_paint_23 : decode cX8_paint 23 = .ok (.iaload, 1) := by decide +kernel
theorem dX8_paint_24 : decode cX8_paint 24 = .ok (.istore_n 3, 1) := by decide +kernel
theorem dX8_paint_25 : decode cX8_paint 25 = .ok (.aload_n 0, 1) := by decide +kernel
theorem dX8_paint_26 : decode cX8_paint 26 = .ok (.getfield 22, 3) := by decide +kernel
theorem dX8_paint_29 : decode cX8_paint 29 = .ok (.iload_n 1, 1) := by decide +kernel
theorem dX8_paint_30 : decode cX8_paint 30 = .ok (.iload_n 2, 1) := by decide +kernel
theorem dX8_paint_31 : decode cX8_paint 31 = .ok (.iastore, 1) := by decide +kernel
theorem dX8_paint_32 : decode cX8_paint 32 = .ok (.aload_n 0, 1) := by decide +kernel
theorem dX8_paint_33 : decode cX8_paint 33 = .ok (.getfield 25, 3) := by decide +kernel
theorem dX8_paint_36 : decode cX8_paint 36 = .ok (.iload_n 1, 1) := by decide +kernel
theorem dX8_paint_37 : decode cX8_paint 37 = .ok (.iconst 0, 1) := by decide +kernel
theorem dX8_paint_38 : decode cX8_paint 38 = .ok (.iastore, 1) := by decide +kernel
theorem dX8_paint_39 : decode cX8_paint 39 = .ok (.aload_n 0, 1) := by decide +kernel
theorem dX8_paint_40 : decode cX8_paint 40 = .ok (.getfield 28, 3) := by decide +kernel
theorem dX8_paint_43 : decode cX8_paint 43 = .ok (.iload_n 1, 1) := by decide +kernel
theorem dX8_paint_44 : decode cX8_paint 44 = .ok (.iconst 0, 1) := by decide +kernel
theorem dX8_paint_45 : decode cX8_paint 45 = .ok (.iastore, 1) := by decide +kernel
theorem dX8_paint_46 : decode cX8_paint 46 = .ok (.iload_n 3, 1) := by decide +kernel
theorem dX8_paint_47 : decode cX8_paint 47 = .ok (.ireturn, 1) := by decide +kernel
theorem dX8_comes_0 : decode cX8_comes 0 = .ok (.iload 4, 2) := by decide +kernel
theorem dX8_comes_2 : decode cX8_comes 2 = .ok (.iload_n 3, 1) := by decide +kernel
theorem dX8_comes_3 : decode cX8_comes 3 = .ok (.iconst 1, 1) := by decide +kernel
theorem dX8_comes_4 : decode cX8_comes 4 = .ok (.iadd, 1) := by decide +kernel
theorem dX8_comes_5 : decode cX8_comes 5 = .ok (.imul, 1) := by decide +kernel
theorem dX8_comes_6 : decode cX8_comes 6 = .ok (.bipush 10, 2) := by decide +kernel
theorem dX8_comes_8 : decode cX8_comes 8 = .ok (.idiv, 1) := by decide +kernel
theorem dX8_comes_9 : decode cX8_comes 9 = .ok (.iload 5, 2) := by decide +kernel
theorem dX8_comes_11 : decode cX8_comes 11 = .ok (.aload_n 0, 1) := by decide +kernel
theorem dX8_comes_12 : decode cX8_comes 12 = .ok (.getfield 115, 3) := by decide +kernel
theorem dX8_comes_15 : decode cX8_comes 15 = .ok (.imul, 1) := by decide +kernel
theorem dX8_comes_16 : decode cX8_comes 16 = .ok (.iconst 5, 1) := by decide +kernel
theorem dX8_comes_17 : decode cX8_comes 17 = .ok (.idiv, 1) := by decide +kernel
theorem dX8_comes_18 : decode cX8_comes 18 = .ok (.iadd, 1) := by decide +kernel
theorem dX8_comes_19 : decode cX8_comes 19 = .ok (.istore 7, 2) := by decide +kernel
theorem dX8_comes_21 : decode cX8_comes 21 = .ok (.iload_n 1, 1) := by decide +kernel
theorem dX8_comes_22 : decode cX8_comes 22 = .ok (.iconst 2, 1) := by decide +kernel
theorem dX8_comes_23 : decode cX8_comes 23 = .ok (.if_icmp .ne 10, 3) := by decide +kernel
theorem dX8_comes_26 : decode cX8_comes 26 = .ok (.iload 7, 2) := by decide +kernel
theorem dX8_comes_28 : decode cX8_comes 28 = .ok (.iconst 2, 1) := by decide +kernel
theorem dX8_comes_29 : decode cX8_comes 29 = .ok (.idiv, 1) := by decide +kernel
theorem dX8_comes_30 : decode cX8_comes 30 = .ok (.goto 5, 3) := by decide +kernel
theorem dX8_comes_33 : decode cX8_comes 33 = .ok (.iload 7, 2) := by decide +kernel
theorem dX8_comes_35 : decode cX8_comes 35 = .ok (.istore 7, 2) := by decide +kernel
theorem dX8_comes_37 : decode cX8_comes 37 = .ok (.iload_n 2, 1) := by decide +kernel
theorem dX8_comes_38 : decode cX8_comes 38 = .ok (.iload 7, 2) := by decide +kernel
theorem dX8_comes_40 : decode cX8_comes 40 = .ok (.if_icmp .ge 7, 3) := by decide +kernel
theorem dX8_comes_43 : decode cX8_comes 43 = .ok (.iconst 0, 1) := by decide +kernel
theorem dX8_comes_44 : decode cX8_comes 44 = .ok (.goto 7, 3) := by decide +kernel
theorem dX8_comes_47 : decode cX8_comes 47 = .ok (.iload_n 2, 1) := by decide +kernel
theorem dX8_comes_48 : decode cX8_comes 48 = .ok (.iload 7, 2) := by decide +kernel
theorem dX8_comes_50 : decode cX8_comes 50 = .ok (.isub, 1) := by decide +kernel
theorem dX8_comes_51 : decode cX8_comes 51 = .ok (.istore 8, 2) := by decide +kernel
theorem dX8_comes_53 : decode cX8_comes 53 = .ok (.iload_n 1, 1) := by decide +kernel
theorem dX8_comes_54 : decode cX8_comes 54 = .ok (.ifCond .le 15, 3) := by decide +kernel
theorem dX8_comes_57 : decode cX8_comes 57 = .ok (.iload 6, 2) := by decide +kernel
theorem dX8_comes_59 : decode cX8_comes 59 = .ok (.ifCond .eq 10, 3) := by decide +kernel
theorem dX8_comes_62 : decode cX8_comes 62 = .ok (.iload 8, 2) := by decide +kernel
theorem dX8_comes_64 : decode cX8_comes 64 = .ok (.iconst 5, 1) := by decide +kernel
theorem dX8_comes_65 : decode cX8_comes 65 = .ok (.iadd, 1) := by decide +kernel
theorem dX8_comes_66 : decode cX8_comes 66 = .ok (.goto 5, 3) := by decide +kernel
theorem dX8_comes_69 : decode cX8_comes 69 = .ok (.iload 8, 2) := by decide +kernel
theorem dX8_comes_71 : decode cX8_comes 71 = .ok (.ireturn, 1) := by decide +kernel
set_option maxRecDepth 20000 in
theorem ggX8_comesOf_X8_comes : GoodIn wsX8_comesOf wsX8_comes := goodIn_r _ [7, 8, 9, 10, 11, 12, 13, 14, 15, 16, 17, 18, 19, 20, 21, 22, 23, 24, 25, 26, 27, 28, 29, 30, 31, 32, 33, 34, 35, 36, 37, 38, 39, 40, 41, 42, 43] (by decide +kernel) (by decide +kernel)
set_option maxRecDepth 20000 in
theorem gX8_comesOf_X8_comes : GoodIn wsX8_comesOf (wsV RX8 140 RX8 yX8_comes wsX8_comes) := goodIn_app (goodIn_of _ (by decide +kernel)) ggX8_comesOf_X8_comes
theorem dX8_comesOf_0 : decode cX8_comesOf 0 = .ok (.aload_n 0, 1) := by decide +kernel
theorem dX8_comesOf_1 : decode cX8_comesOf 1 = .ok (.aload_n 0, 1) := by decide +kernel
theorem dX8_comesOf_2 : decode cX8_comesOf 2 = .ok (.getfield 38, 3) := by decide +kernel
theorem dX8_comesOf_5 : decode cX8_comesOf 5 = .ok (.iload_n 1, 1) := by decide +kernel
theorem dX8_comesOf_6 : decode cX8_comesOf 6 = .ok (.iaload, 1) := by decide +kernel
theorem dX8_comesOf_7 : decode cX8_comesOf 7 = .ok (.aload_n 0, 1) := by decide +kernel
theorem dX8_comesOf_8 : decode cX8_comesOf 8 = .ok (.getfield 41, 3) := by decide +kernel
theorem dX8_comesOf_11 : decode cX8_comesOf 11 = .ok (.iconst 3, 1) := by decide +kernel
theorem dX8_comesOf_12 : decode cX8_comesOf 12 = .ok (.iload_n 1, 1) := by decide +kernel
theorem dX8_comesOf_13 : decode cX8_comesOf 13 = .ok (.imul, 1) := by decide +kernel
theorem dX8_comesOf_14 : decode cX8_comesOf 14 = .ok (.iload_n 2, 1) := by decide +kernel
theorem dX8_comesOf_15 : decode cX8_comesOf 15 = .ok (.iadd, 1) := by decide +kernel
theorem dX8_comesOf_16 : decode cX8_comesOf 16 = .ok (.iaload, 1) := by decide +kernel
theorem dX8_comesOf_17 : decode cX8_comesOf 17 = .ok (.iload_n 2, 1) := by decide +kernel
theorem dX8_comesOf_18 : decode cX8_comesOf 18 = .ok (.iload_n 3, 1) := by decide +kernel
theorem dX8_comesOf_19 : decode cX8_comesOf 19 = .ok (.iload 4, 2) := by decide +kernel
theorem dX8_comesOf_21 : decode cX8_comesOf 21 = .ok (.iload 5, 2) := by decide +kernel
theorem dX8_comesOf_23 : decode cX8_comesOf 23 = .ok (.invokevirtual 140, 3) := by decide +kernel
theorem dX8_comesOf_26 : decode cX8_comesOf 26 = .ok (.ireturn, 1) := by decide +kernel
set_option maxRecDepth 20000 in
theorem ggX8_back_X8_isCell : GoodIn wsX8_back wsX8_isCell := goodIn_r _ [8, 9, 10, 11, 7, 12, 13, 14, 29, 30, 31, 32, 33, 34, 35, 36, 37, 38, 39, 40, 41, 42, 43, 44, 45, 46, 47, 48, 49, 50, 51, 52, 53, 54, 55, 56, 57, 58, 59, 60, 61, 62, 63] (by decide +kernel) (by decide +kernel)
set_option maxRecDepth 20000 in
theorem gX8_back_X8_isCell : GoodIn wsX8_back (wsV RX8 134 RX8 yX8_isCell wsX8_isCell) := goodIn_app (goodIn_of _ (by decide +kernel)) ggX8_back_X8_isCell
set_option maxRecDepth 20000 in
theorem ggX8_back_X8_within : GoodIn wsX8_back wsX8_within := goodIn_r _ [17] (by decide +kernel) (by decide +kernel)
set_option maxRecDepth 20000 in
theorem gX8_back_X8_within : GoodIn wsX8_back (va_wsS RX8 71 yX8_within wsX8_within) := goodIn_app (goodIn_of _ (by decide +kernel)) ggX8_back_X8_within
set_option maxRecDepth 20000 in
theorem ggX8_back_X8_comesOf : GoodIn wsX8_back wsX8_comesOf := goodIn_r _ [21, 22, 23, 24, 25, 26, 7, 27, 28, 29, 30, 31, 32, 33, 34, 35, 36, 37, 38, 39, 40, 41, 42, 43, 44, 45, 46, 47, 48, 49, 50, 51, 52, 53, 54, 55, 56, 57, 58, 59, 60, 61, 62, 63] (by decide +kernel) (by decide +kernel)
set_option maxRecDepth 20000 in
theorem gX8_back_X8_comesOf : GoodIn wsX8_back (wsV RX8 144 RX8 yX8_comesOf wsX8_comesOf) := goodIn_app (goodIn_of _ (by decide +kernel)) ggX8_back_X8_comesOf
theorem dX8_back_0 : decode cX8_back 0 = .ok (.aload_n 0, 1) := by decide +kernel
theorem dX8_back_1 : decode cX8_back 1 = .ok (.iload_n 1, 1) := by decide +kernel
theorem dX8_back_2 : decode cX8_back 2 = .ok (.invokevirtual 134, 3) := by decide +kernel
theorem dX8_back_5 : decode cX8_back 5 = .ok (.ifCond .ne 5, 3) := by decide +kernel
theorem dX8_back_8 : decode cX8_back 8 = .ok (.iconst (-1), 1) := by decide +kernel
theorem dX8_back_9 : decode cX8_back 9 = .ok (.ireturn, 1) := by decide +kernel
theorem dX8_back_10 : decode cX8_back 10 = .ok (.iload_n 2, 1) := by decide +kernel
theorem dX8_back_11 : decode cX8_back 11 = .ok (.iconst 0, 1) := by decide +kernel
theorem dX8_back_12 : decode cX8_back 12 = .ok (.iconst 2, 1) := by decide +kernel
theorem dX8_back_13 : decode cX8_back 13 = .ok (.invokestatic 71, 3) := by decide +kernel
theorem dX8_back_16 : decode cX8_back 16 = .ok (.ifCond .eq 30, 3) := by decide +kernel
theorem dX8_back_19 : decode cX8_back 19 = .ok (.aload_n 0, 1) := by decide +kernel
theorem dX8_back_20 : decode cX8_back 20 = .ok (.aload_n 0, 1) := by decide +kernel
theorem dX8_back_21 : decode cX8_back 21 = .ok (.getfield 22, 3) := by decide +kernel
theorem dX8_back_24 : decode cX8_back 24 = .ok (.iload_n 1, 1) := by decide +kernel
theorem dX8_back_25 : decode cX8_back 25 = .ok (.iaload, 1) := by decide +kernel
theorem dX8_back_26 : decode cX8_back 26 = .ok (.iload_n 2, 1) := by decide +kernel
theorem dX8_back_27 : decode cX8_back 27 = .ok (.aload_n 0, 1) := by decide +kernel
theorem dX8_back_28 : decode cX8_back 28 = .ok (.getfield 25, 3) := by decide +kernel
theorem dX8_back_31 : decode cX8_back 31 = .ok (.iload_n 1, 1) := by decide +kernel
theorem dX8_back_32 : decode cX8_back 32 = .ok (.iaload, 1) := by decide +kernel
theorem dX8_back_33 : decode cX8_back 33 = .ok (.aload_n 0, 1) := by decide +kernel
theorem dX8_back_34 : decode cX8_back 34 = .ok (.getfield 28, 3) := by decide +kernel
theorem dX8_back_37 : decode cX8_back 37 = .ok (.iload_n 1, 1) := by decide +kernel
theorem dX8_back_38 : decode cX8_back 38 = .ok (.iaload, 1) := by decide +kernel
theorem dX8_back_39 : decode cX8_back 39 = .ok (.iload_n 3, 1) := by decide +kernel
theorem dX8_back_40 : decode cX8_back 40 = .ok (.invokevirtual 144, 3) := by decide +kernel
theorem dX8_back_43 : decode cX8_back 43 = .ok (.goto 5, 3) := by decide +kernel
theorem dX8_back_46 : decode cX8_back 46 = .ok (.bipush (-2), 2) := by decide +kernel
theorem dX8_back_48 : decode cX8_back 48 = .ok (.ireturn, 1) := by decide +kernel
set_option maxRecDepth 20000 in
theorem ggX8_light_X8_within : GoodIn wsX8_light wsX8_within := goodIn_r _ [6] (by decide +kernel) (by decide +kernel)
set_option maxRecDepth 20000 in
theorem gX8_light_X8_within : GoodIn wsX8_light (va_wsS RX8 71 yX8_within wsX8_within) := goodIn_app (goodIn_of _ (by decide +kernel)) ggX8_light_X8_within
set_option maxRecDepth 20000 in
theorem ggX8_light_X8_all : GoodIn wsX8_light wsX8_all := goodIn_r _ [10, 11, 12, 13, 14, 15, 16, 17, 18, 19, 20, 21, 22, 23, 24, 25, 26, 27, 28, 29, 30, 31, 32, 33, 34, 35, 36, 37, 38, 39, 40, 41, 42, 43, 44, 45, 46, 47] (by decide +kernel) (by decide +kernel)
set_option maxRecDepth 20000 in
theorem gX8_light_X8_all : GoodIn wsX8_light (wsV RX8 81 RX8 yX8_all wsX8_all) := goodIn_app (goodIn_of _ (by decide +kernel)) ggX8_light_X8_all
theorem dX8_light_0 : decode cX8_light 0 = .ok (.iload_n 1, 1) := by decide +kernel
theorem dX8_light_1 : decode cX8_light 1 = .ok (.iconst 0, 1) := by decide +kernel
theorem dX8_light_2 : decode cX8_light 2 = .ok (.bipush 9, 2) := by decide +kernel
theorem dX8_light_4 : decode cX8_light 4 = .ok (.invokestatic 71, 3) := by decide +kernel
theorem dX8_light_7 : decode cX8_light 7 = .ok (.ifCond .eq 23, 3) := by decide +kernel
theorem dX8_light_10 : decode cX8_light 10 = .ok (.iload_n 2, 1) := by decide +kernel
theorem dX8_light_11 : decode cX8_light 11 = .ok (.iconst 0, 1) := by decide +kernel
theorem dX8_light_12 : decode cX8_light 12 = .ok (.bipush 9, 2) := by decide +kernel
theorem dX8_light_14 : decode cX8_light 14 = .ok (.invokestatic 71, 3) := by decide +kernel
theorem dX8_light_17 : decode cX8_light 17 = .ok (.ifCond .eq 13, 3) := by decide +kernel
theorem dX8_light_20 : decode cX8_light 20 = .ok (.iload_n 3, 1) := by decide +kernel
theorem dX8_light_21 : decode cX8_light 21 = .ok (.iconst 0, 1) := by decide +kernel
theorem dX8_light_22 : decode cX8_light 22 = .ok (.bipush 9, 2) := by decide +kernel
theorem dX8_light_24 : decode cX8_light 24 = .ok (.invokestatic 71, 3) := by decide +kernel
theorem dX8_light_27 : decode cX8_light 27 = .ok (.ifCond .ne 6, 3) := by decide +kernel
theorem dX8_light_30 : decode cX8_light 30 = .ok (.bipush (-2), 2) := by decide +kernel
theorem dX8_light_32 : decode cX8_light 32 = .ok (.ireturn, 1) := by decide +kernel
theorem dX8_light_33 : decode cX8_light 33 = .ok (.aload_n 0, 1) := by decide +kernel
theorem dX8_light_34 : decode cX8_light 34 = .ok (.invokevirtual 81, 3) := by decide +kernel
theorem dX8_light_37 : decode cX8_light 37 = .ok (.ifCond .ne 6, 3) := by decide +kernel
theorem dX8_light_40 : decode cX8_light 40 = .ok (.bipush (-3), 2) := by decide +kernel
theorem dX8_light_42 : decode cX8_light 42 = .ok (.ireturn, 1) := by decide +kernel
theorem dX8_light_43 : decode cX8_light 43 = .ok (.aload_n 0, 1) := by decide +kernel
theorem dX8_light_44 : decode cX8_light 44 = .ok (.getfield 121, 3) := by decide +kernel
theorem dX8_light_47 : decode cX8_light 47 = .ok (.iconst 4, 1) := by decide +kernel
theorem dX8_light_48 : decode cX8_light 48 = .ok (.if_icmp .ne 6, 3) := by decide +kernel
theorem dX8_light_51 : decode cX8_light 51 = .ok (.bipush (-4), 2) := by decide +kernel
theorem dX8_light_53 : decode cX8_light 53 = .ok (.ireturn, 1) := by decide +kernel
theorem dX8_light_54 : decode cX8_light 54 = .ok (.aload_n 0, 1) := by decide +kernel
theorem dX8_light_55 : decode cX8_light 55 = .ok (.getfield 44, 3) := by decide +kernel
theorem dX8_light_58 : decode cX8_light 58 = .ok (.iconst 3, 1) := by decide +kernel
theorem dX8_light_59 : decode cX8_light 59 = .ok (.aload_n 0, 1) := by decide +kernel
theorem dX8_light_60 : decode cX8_light 60 = .ok (.getfield 121, 3) := by decide +kernel
theorem dX8_light_63 : decode cX8_light 63 = .ok (.imul, 1) := by decide +kernel
theorem dX8_light_64 : decode cX8_light 64 = .ok (.iload_n 1, 1) := by decide +kernel
theorem dX8_light_65 : decode cX8_light 65 = .ok (.iastore, 1) := by decide +kernel
theorem dX8_light_66 : decode cX8_light 66 = .ok (.aload_n 0, 1) := by decide +kernel
theorem dX8_light_67 : decode cX8_light 67 = .ok (.getfield 44, 3) := by decide +kernel
theorem dX8_light_70 : decode cX8_light 70 = .ok (.iconst 3, 1) := by decide +kernel
theorem dX8_light_71 : decode cX8_light 71 = .ok (.aload_n 0, 1) := by decide +kernel
theorem dX8_light_72 : decode cX8_light 72 = .ok (.getfield 121, 3) := by decide +kernel
theorem dX8_light_75 : decode cX8_light 75 = .ok (.imul, 1) := by decide +kernel
theorem dX8_light_76 : decode cX8_light 76 = .ok (.iconst 1, 1) := by decide +kernel
theorem dX8_light_77 : decode cX8_light 77 = .ok (.iadd, 1) := by decide +kernel
theorem dX8_light_78 : decode cX8_light 78 = .ok (.iload_n 2, 1) := by decide +kernel
theorem dX8_light_79 : decode cX8_light 79 = .ok (.iastore, 1) := by decide +kernel
theorem dX8_light_80 : decode cX8_light 80 = .ok (.aload_n 0, 1) := by decide +kernel
theorem dX8_light_81 : decode cX8_light 81 = .ok (.getfield 44, 3) := by decide +kernel
theorem dX8_light_84 : decode cX8_light 84 = .ok (.iconst 3, 1) := by decide +kernel
theorem dX8_light_85 : decode cX8_light 85 = .ok (.aload_n 0, 1) := by decide +kernel
theorem dX8_light_86 : decode cX8_light 86 = .ok (.getfield 121, 3) := by decide +kernel
theorem dX8_light_89 : decode cX8_light 89 = .ok (.imul, 1) := by decide +kernel
theorem dX8_light_90 : decode cX8_light 90 = .ok (.iconst 2, 1) := by decide +kernel
theorem dX8_light_91 : decode cX8_light 91 = .ok (.iadd, 1) := by decide +kernel
theorem dX8_light_92 : decode cX8_light 92 = .ok (.iload_n 3, 1) := by decide +kernel
theorem dX8_light_93 : decode cX8_light 93 = .ok (.iastore, 1) := by decide +kernel
theorem dX8_light_94 : decode cX8_light 94 = .ok (.aload_n 0, 1) := by decide +kernel
theorem dX8_light_95 : decode cX8_light 95 = .ok (.dup, 1) := by decide +kernel
theorem dX8_light_96 : decode cX8_light 96 = .ok (.getfield 121, 3) := by decide +kernel
theorem dX8_light_99 : decode cX8_light 99 = .ok (.iconst 1, 1) := by decide +kernel
theorem dX8_light_100 : decode cX8_light 100 = .ok (.iadd, 1) := by decide +kernel
theorem dX8_light_101 : decode cX8_light 101 = .ok (.putfield 121, 3) := by decide +kernel
theorem dX8_light_104 : decode cX8_light 104 = .ok (.aload_n 0, 1) := by decide +kernel
theorem dX8_light_105 : decode cX8_light 105 = .ok (.getfield 121, 3) := by decide +kernel
theorem dX8_light_108 : decode cX8_light 108 = .ok (.iconst 1, 1) := by decide +kernel
theorem dX8_light_109 : decode cX8_light 109 = .ok (.isub, 1) := by decide +kernel
theorem dX8_light_110 : decode cX8_light 110 = .ok (.ireturn, 1) := by decide +kernel
set_option maxRecDepth 20000 in
theorem ggX8_lookOf_X8_comesOf : GoodIn wsX8_lookOf wsX8_comesOf := goodIn_r _ [6, 7, 8, 9, 10, 11, 5, 12, 13, 14, 15, 16, 17, 18, 19, 20, 21, 22, 23, 24, 25, 26, 27, 28, 29, 30, 31, 32, 33, 34, 35, 36, 37, 38, 39, 40, 41, 42, 43, 44, 45, 46, 47, 48] (by decide +kernel) (by decide +kernel)
set_option maxRecDepth 20000 in
theorem gX8_lookOf_X8_comesOf : GoodIn wsX8_lookOf (wsV RX8 144 RX8 yX8_comesOf wsX8_comesOf) := goodIn_app (goodIn_of _ (by decide +kernel)) ggX8_lookOf_X8_comesOf
theorem dX8_lookOf_0 : decode cX8_lookOf 0 = .ok (.iconst 0, 1) := by decide +kernel
theorem dX8_lookOf_1 : decode cX8_lookOf 1 = .ok (.istore 6, 2) := by decide +kernel
theorem dX8_lookOf_3 : decode cX8_lookOf 3 = .ok (.iconst 0, 1) := by decide +kernel
theorem dX8_lookOf_4 : decode cX8_lookOf 4 = .ok (.istore 7, 2) := by decide +kernel
theorem dX8_lookOf_6 : decode cX8_lookOf 6 = .ok (.iload 7, 2) := by decide +kernel
theorem dX8_lookOf_8 : decode cX8_lookOf 8 = .ok (.iconst 3, 1) := by decide +kernel
theorem dX8_lookOf_9 : decode cX8_lookOf 9 = .ok (.if_icmp .ge 38, 3) := by decide +kernel
theorem dX8_lookOf_12 : decode cX8_lookOf 12 = .ok (.iload 6, 2) := by decide +kernel
theorem dX8_lookOf_14 : decode cX8_lookOf 14 = .ok (.aload_n 0, 1) := by decide +kernel
theorem dX8_lookOf_15 : decode cX8_lookOf 15 = .ok (.iload_n 1, 1) := by decide +kernel
theorem dX8_lookOf_16 : decode cX8_lookOf 16 = .ok (.iload 7, 2) := by decide +kernel
theorem dX8_lookOf_18 : decode cX8_lookOf 18 = .ok (.iload_n 2, 1) := by decide +kernel
theorem dX8_lookOf_19 : decode cX8_lookOf 19 = .ok (.iload_n 3, 1) := by decide +kernel
theorem dX8_lookOf_20 : decode cX8_lookOf 20 = .ok (.iload 5, 2) := by decide +kernel
theorem dX8_lookOf_22 : decode cX8_lookOf 22 = .ok (.invokevirtual 144, 3) := by decide +kernel
theorem dX8_lookOf_25 : decode cX8_lookOf 25 = .ok (.aload_n 0, 1) := by decide +kernel
theorem dX8_lookOf_26 : decode cX8_lookOf 26 = .ok (.getfield 44, 3) := by decide +kernel
theorem dX8_lookOf_29 : decode cX8_lookOf 29 = .ok (.iconst 3, 1) := by decide +kernel
theorem dX8_lookOf_30 : decode cX8_lookOf 30 = .ok (.iload 4, 2) := by decide +kernel
theorem dX8_lookOf_32 : decode cX8_lookOf 32 = .ok (.imul, 1) := by decide +kernel
theorem dX8_lookOf_33 : decode cX8_lookOf 33 = .ok (.iload 7, 2) := by decide +kernel
theorem dX8_lookOf_35 : decode cX8_lookOf 35 = .ok (.iadd, 1) := by decide +kernel
theorem dX8_lookOf_36 : decode cX8_lookOf 36 = .ok (.iaload, 1) := by decide +kernel
theorem dX8_lookOf_37 : decode cX8_lookOf 37 = .ok (.imul, 1) := by decide +kernel
theorem dX8_lookOf_38 : decode cX8_lookOf 38 = .ok (.iadd, 1) := by decide +kernel
theorem dX8_lookOf_39 : decode cX8_lookOf 39 = .ok (.istore 6, 2) := by decide +kernel
theorem dX8_lookOf_41 : decode cX8_lookOf 41 = .ok (.iinc 7 1, 3) := by decide +kernel
theorem dX8_lookOf_44 : decode cX8_lookOf 44 = .ok (.goto (-38), 3) := by decide +kernel
theorem dX8_lookOf_47 : decode cX8_lookOf 47 = .ok (.iload 6, 2) := by decide +kernel
theorem dX8_lookOf_49 : decode cX8_lookOf 49 = .ok (.ireturn, 1) := by decide +kernel
set_option maxRecDepth 20000 in
theorem ggX8_lookNow_X8_lookOf : GoodIn wsX8_lookNow wsX8_lookOf := goodIn_r _ [8, 9, 10, 11, 12, 7, 13, 14, 15, 16, 17, 18, 19, 20, 21, 22, 23, 24, 25, 26, 27, 28, 29, 30, 31, 32, 33, 34, 35, 36, 37, 38, 39, 40, 41, 42, 43, 44, 45, 46, 47, 48, 49, 50, 51, 52, 53, 54, 55] (by decide +kernel) (by decide +kernel)
set_option maxRecDepth 20000 in
theorem gX8_lookNow_X8_lookOf : GoodIn wsX8_lookNow (wsV RX8 148 RX8 yX8_lookOf wsX8_lookOf) := goodIn_app (goodIn_of _ (by decide +kernel)) ggX8_lookNow_X8_lookOf
theorem dX8_lookNow_0 : decode cX8_lookNow 0 = .ok (.aload_n 0, 1) := by decide +kernel
theorem dX8_lookNow_1 : decode cX8_lookNow 1 = .ok (.aload_n 0, 1) := by decide +kernel
theorem dX8_lookNow_2 : decode cX8_lookNow 2 = .ok (.getfield 22, 3) := by decide +kernel
theorem dX8_lookNow_5 : decode cX8_lookNow 5 = .ok (.iload_n 1, 1) := by decide +kernel
theorem dX8_lookNow_6 : decode cX8_lookNow 6 = .ok (.iaload, 1) := by decide +kernel
theorem dX8_lookNow_7 : decode cX8_lookNow 7 = .ok (.aload_n 0, 1) := by decide +kernel
theorem dX8_lookNow_8 : decode cX8_lookNow 8 = .ok (.getfield 25, 3) := by decide +kernel
theorem dX8_lookNow_11 : decode cX8_lookNow 11 = .ok (.iload_n 1, 1) := by decide +kernel
theorem dX8_lookNow_12 : decode cX8_lookNow 12 = .ok (.iaload, 1) := by decide +kernel
theorem dX8_lookNow_13 : decode cX8_lookNow 13 = .ok (.aload_n 0, 1) := by decide +kernel
theorem dX8_lookNow_14 : decode cX8_lookNow 14 = .ok (.getfield 28, 3) := by decide +kernel
theorem dX8_lookNow_17 : decode cX8_lookNow 17 = .ok (.iload_n 1, 1) := by decide +kernel
theorem dX8_lookNow_18 : decode cX8_lookNow 18 = .ok (.iaload, 1) := by decide +kernel
theorem dX8_lookNow_19 : decode cX8_lookNow 19 = .ok (.iload_n 2, 1) := by decide +kernel
theorem dX8_lookNow_20 : decode cX8_lookNow 20 = .ok (.iload_n 3, 1) := by decide +kernel
theorem dX8_lookNow_21 : decode cX8_lookNow 21 = .ok (.invokevirtual 148, 3) := by decide +kernel
theorem dX8_lookNow_24 : decode cX8_lookNow 24 = .ok (.ireturn, 1) := by decide +kernel
set_option maxRecDepth 20000 in
theorem ggX8_look_X8_isCell : GoodIn wsX8_look wsX8_isCell := goodIn_r _ [5, 6, 7, 8, 4, 9, 10, 11, 40, 41, 42, 43, 44, 45, 46, 47, 48, 49, 50, 51, 52, 53, 54, 55, 56, 57, 58, 59, 60, 61, 62, 63, 64, 65, 66, 67, 68, 69, 70, 71, 72, 73, 74] (by decide +kernel) (by decide +kernel)
set_option maxRecDepth 20000 in
theorem gX8_look_X8_isCell : GoodIn wsX8_look (wsV RX8 134 RX8 yX8_isCell wsX8_isCell) := goodIn_app (goodIn_of _ (by decide +kernel)) ggX8_look_X8_isCell
set_option maxRecDepth 20000 in
theorem ggX8_look_X8_isLight : GoodIn wsX8_look wsX8_isLight := goodIn_r _ [15, 16, 40, 41, 42, 43, 44, 45, 46, 47, 48, 49, 50, 51, 52, 53, 54, 55, 56, 57, 58, 59, 60, 61, 62, 63, 64, 65, 66, 67, 68, 69, 70, 71, 72, 73, 74] (by decide +kernel) (by decide +kernel)
set_option maxRecDepth 20000 in
theorem gX8_look_X8_isLight : GoodIn wsX8_look (wsV RX8 151 RX8 yX8_isLight wsX8_isLight) := goodIn_app (goodIn_of _ (by decide +kernel)) ggX8_look_X8_isLight
set_option maxRecDepth 20000 in
theorem ggX8_look_X8_lookNow : GoodIn wsX8_look wsX8_lookNow := goodIn_r _ [20, 21, 22, 23, 24, 25, 26, 4, 27, 28, 29, 30, 31, 32, 33, 34, 35, 36, 37, 38, 39, 40, 41, 42, 43, 44, 45, 46, 47, 48, 49, 50, 51, 52, 53, 54, 55, 56, 57, 58, 59, 60, 61, 62, 63, 64, 65, 66, 67, 68, 69, 70, 71, 72, 73, 74] (by decide +kernel) (by decide +kernel)
set_option maxRecDepth 20000 in
theorem gX8_look_X8_lookNow : GoodIn wsX8_look (wsV RX8 154 RX8 yX8_lookNow wsX8_lookNow) := goodIn_app (goodIn_of _ (by decide +kernel)) ggX8_look_X8_lookNow
theorem dX8_look_0 : decode cX8_look 0 = .ok (.aload_n 0, 1) := by decide +kernel
theorem dX8_look_1 : decode cX8_look 1 = .ok (.iload_n 1, 1) := by decide +kernel
theorem dX8_look_2 : decode cX8_look 2 = .ok (.invokevirtual 134, 3) := by decide +kernel
theorem dX8_look_5 : decode cX8_look 5 = .ok (.ifCond .eq 21, 3) := by decide +kernel
theorem dX8_look_8 : decode cX8_look 8 = .ok (.aload_n 0, 1) := by decide +kernel
theorem dX8_look_9 : decode cX8_look 9 = .ok (.iload_n 2, 1) := by decide +kernel
theorem dX8_look_10 : decode cX8_look 10 = .ok (.invokevirtual 151, 3) := by decide +kernel
theorem dX8_look_13 : decode cX8_look 13 = .ok (.ifCond .eq 13, 3) := by decide +kernel
theorem dX8_look_16 : decode cX8_look 16 = .ok (.aload_n 0, 1) := by decide +kernel
theorem dX8_look_17 : decode cX8_look 17 = .ok (.iload_n 1, 1) := by decide +kernel
theorem dX8_look_18 : decode cX8_look 18 = .ok (.iload_n 2, 1) := by decide +kernel
theorem dX8_look_19 : decode cX8_look 19 = .ok (.iload_n 3, 1) := by decide +kernel
theorem dX8_look_20 : decode cX8_look 20 = .ok (.invokevirtual 154, 3) := by decide +kernel
theorem dX8_look_23 : decode cX8_look 23 = .ok (.goto 4, 3) := by decide +kernel
theorem dX8_look_26 : decode cX8_look 26 = .ok (.iconst (-1), 1) := by decide +kernel
theorem dX8_look_27 : decode cX8_look 27 = .ok (.ireturn, 1) := by decide +kernel
theorem dX8_size_0 : decode cX8_size 0 = .ok (.iload_n 0, 1) := by decide +kernel
theorem dX8_size_1 : decode cX8_size 1 = .ok (.ifCond .ge 8, 3) := by decide +kernel
theorem dX8_size_4 : decode cX8_size 4 = .ok (.iload_n 0, 1) := by decide +kernel
theorem dX8_size_5 : decode cX8_size 5 = .ok (.ineg, 1) := by decide +kernel
theorem dX8_size_6 : decode cX8_size 6 = .ok (.goto 4, 3) := by decide +kernel
theorem dX8_size_9 : decode cX8_size 9 = .ok (.iload_n 0, 1) := by decide +kernel
theorem dX8_size_10 : decode cX8_size 10 = .ok (.ireturn, 1) := by decide +kernel
set_option maxRecDepth 20000 in
theorem ggX8_unlike_X8_isCell : GoodIn wsX8_unlike wsX8_isCell := goodIn_r _ [5, 6, 7, 8, 4, 9, 10, 11, 43, 44, 45, 46, 47, 48, 49, 50, 51, 52, 53, 54, 55, 56, 57, 58, 59, 60, 61, 62, 63, 64, 65, 66, 67, 68, 69, 70, 71, 72, 73, 74, 75, 76, 77] (by decide +kernel) (by decide +kernel)
set_option maxRecDepth 20000 in
theorem gX8_unlike_X8_isCell : GoodIn wsX8_unlike (wsV RX8 134 RX8 yX8_isCell wsX8_isCell) := goodIn_app (goodIn_of _ (by decide +kernel)) ggX8_unlike_X8_isCell
set_option maxRecDepth 20000 in
theorem ggX8_unlike_X8_isLight : GoodIn wsX8_unlike wsX8_isLight := goodIn_r _ [15, 16, 43, 44, 45, 46, 47, 48, 49, 50, 51, 52, 53, 54, 55, 56, 57, 58, 59, 60, 61, 62, 63, 64, 65, 66, 67, 68, 69, 70, 71, 72, 73, 74, 75, 76, 77] (by decide +kernel) (by decide +kernel)
set_option maxRecDepth 20000 in
theorem gX8_unlike_X8_isLight : GoodIn wsX8_unlike (wsV RX8 151 RX8 yX8_isLight wsX8_isLight) := goodIn_app (goodIn_of _ (by decide +kernel)) ggX8_unlike_X8_isLight
set_option maxRecDepth 20000 in
theorem ggX8_unlike_X8_lookNow : GoodIn wsX8_unlike wsX8_lookNow := goodIn_r _ [20, 21, 22, 23, 24, 25, 26, 4, 27, 28, 29, 30, 31, 32, 33, 34, 35, 36, 37, 38, 39, 43, 44, 45, 46, 47, 48, 49, 50, 51, 52, 53, 54, 55, 56, 57, 58, 59, 60, 61, 62, 63, 64, 65, 66, 67, 68, 69, 70, 71, 72, 73, 74, 75, 76, 77] (by decide +kernel) (by decide +kernel)
set_option maxRecDepth 20000 in
theorem gX8_unlike_X8_lookNow : GoodIn wsX8_unlike (wsV RX8 154 RX8 yX8_lookNow wsX8_lookNow) := goodIn_app (goodIn_of _ (by decide +kernel)) ggX8_unlike_X8_lookNow
set_option maxRecDepth 20000 in
theorem ggX8_unlike_X8_size : GoodIn wsX8_unlike wsX8_size := goodIn_r _ [42] (by decide +kernel) (by decide +kernel)
set_option maxRecDepth 20000 in
theorem gX8_unlike_X8_size : GoodIn wsX8_unlike (va_wsS RX8 158 yX8_size wsX8_size) := goodIn_app (goodIn_of _ (by decide +kernel)) ggX8_unlike_X8_size
theorem dX8_unlike_0 : decode cX8_unlike 0 = .ok (.aload_n 0, 1) := by decide +kernel
theorem dX8_unlike_1 : decode cX8_unlike 1 = .ok (.iload_n 1, 1) := by decide +kernel
theorem dX8_unlike_2 : decode cX8_unlike 2 = .ok (.invokevirtual 134, 3) := by decide +kernel
theorem dX8_unlike_5 : decode cX8_unlike 5 = .ok (.ifCond .eq 19, 3) := by decide +kernel
theorem dX8_unlike_8 : decode cX8_unlike 8 = .ok (.aload_n 0, 1) := by decide +kernel
theorem dX8_unlike_9 : decode cX8_unlike 9 = .ok (.iload_n 2, 1) := by decide +kernel
theorem dX8_unlike_10 : decode cX8_unlike 10 = .ok (.invokevirtual 134, 3) := by decide +kernel
theorem dX8_unlike_13 : decode cX8_unlike 13 = .ok (.ifCond .eq 11, 3) := by decide +kernel
theorem dX8_unlike_16 : decode cX8_unlike 16 = .ok (.aload_n 0, 1) := by decide +kernel
theorem dX8_unlike_17 : decode cX8_unlike 17 = .ok (.iload_n 3, 1) := by decide +kernel
theorem dX8_unlike_18 : decode cX8_unlike 18 = .ok (.invokevirtual 151, 3) := by decide +kernel
theorem dX8_unlike_21 : decode cX8_unlike 21 = .ok (.ifCond .ne 5, 3) := by decide +kernel
theorem dX8_unlike_24 : decode cX8_unlike 24 = .ok (.iconst (-1), 1) := by decide +kernel
theorem dX8_unlike_25 : decode cX8_unlike 25 = .ok (.ireturn, 1) := by decide +kernel
theorem dX8_unlike_26 : decode cX8_unlike 26 = .ok (.aload_n 0, 1) := by decide +kernel
theorem dX8_unlike_27 : decode cX8_unlike 27 = .ok (.iload_n 1, 1) := by decide +kernel
theorem dX8_unlike_28 : decode cX8_unlike 28 = .ok (.iload_n 3, 1) := by decide +kernel
theorem dX8_unlike_29 : decode cX8_unlike 29 = .ok (.iload 4, 2) := by decide +kernel
theorem dX8_unlike_31 : decode cX8_unlike 31 = .ok (.invokevirtual 154, 3) := by decide +kernel
theorem dX8_unlike_34 : decode cX8_unlike 34 = .ok (.aload_n 0, 1) := by decide +kernel
theorem dX8_unlike_35 : decode cX8_unlike 35 = .ok (.iload_n 2, 1) := by decide +kernel
theorem dX8_unlike_36 : decode cX8_unlike 36 = .ok (.iload_n 3, 1) := by decide +kernel
theorem dX8_unlike_37 : decode cX8_unlike 37 = .ok (.iload 4, 2) := by decide +kernel
theorem dX8_unlike_39 : decode cX8_unlike 39 = .ok (.invokevirtual 154, 3) := by decide +kernel
theorem dX8_unlike_42 : decode cX8_unlike 42 = .ok (.isub, 1) := by decide +kernel
theorem dX8_unlike_43 : decode cX8_unlike 43 = .ok (.invokestatic 158, 3) := by decide +kernel
theorem dX8_unlike_46 : decode cX8_unlike 46 = .ok (.ireturn, 1) := by decide +kernel
set_option maxRecDepth 20000 in
theorem ggX8_isEdge_X8_lookNow : GoodIn wsX8_isEdge wsX8_lookNow := goodIn_r _ [7, 8, 9, 10, 11, 12, 13, 6, 14, 15, 16, 17, 18, 19, 20, 21, 22, 23, 24, 25, 26, 30, 31, 32, 33, 34, 35, 36, 37, 38, 39, 40, 41, 42, 43, 44, 45, 46, 47, 48, 49, 50, 51, 52, 53, 54, 55, 56, 57, 58, 59, 60, 61, 62, 63, 64] (by decide +kernel) (by decide +kernel)
set_option maxRecDepth 20000 in
theorem gX8_isEdge_X8_lookNow : GoodIn wsX8_isEdge (wsV RX8 154 RX8 yX8_lookNow wsX8_lookNow) := goodIn_app (goodIn_of _ (by decide +kernel)) ggX8_isEdge_X8_lookNow
set_option maxRecDepth 20000 in
theorem ggX8_isEdge_X8_size : GoodIn wsX8_isEdge wsX8_size := goodIn_r _ [29] (by decide +kernel) (by decide +kernel)
set_option maxRecDepth 20000 in
theorem gX8_isEdge_X8_size : GoodIn wsX8_isEdge (va_wsS RX8 158 yX8_size wsX8_size) := goodIn_app (goodIn_of _ (by decide +kernel)) ggX8_isEdge_X8_size
theorem dX8_isEdge_0 : decode cX8_isEdge 0 = .ok (.iconst 0, 1) := by decide +kernel
theorem dX8_isEdge_1 : decode cX8_isEdge 1 = .ok (.istore_n 3, 1) := by decide +kernel
theorem dX8_isEdge_2 : decode cX8_isEdge 2 = .ok (.iload_n 3, 1) := by decide +kernel
theorem dX8_isEdge_3 : decode cX8_isEdge 3 = .ok (.aload_n 0, 1) := by decide +kernel
theorem dX8_isEdge_4 : decode cX8_isEdge 4 = .ok (.getfield 121, 3) := by decide +kernel
theorem dX8_isEdge_7 : decode cX8_isEdge 7 = .ok (.if_icmp .ge 71, 3) := by decide +kernel
theorem dX8_isEdge_10 : decode cX8_isEdge 10 = .ok (.iconst 0, 1) := by decide +kernel
theorem dX8_isEdge_11 : decode cX8_isEdge 11 = .ok (.istore 4, 2) := by decide +kernel
theorem dX8_isEdge_13 : decode cX8_isEdge 13 = .ok (.iload 4, 2) := by decide +kernel
theorem dX8_isEdge_15 : decode cX8_isEdge 15 = .ok (.iconst 2, 1) := by decide +kernel
theorem dX8_isEdge_16 : decode cX8_isEdge 16 = .ok (.if_icmp .ge 56, 3) := by decide +kernel
theorem dX8_isEdge_19 : decode cX8_isEdge 19 = .ok (.aload_n 0, 1) := by decide +kernel
theorem dX8_isEdge_20 : decode cX8_isEdge 20 = .ok (.iload_n 1, 1) := by decide +kernel
theorem dX8_isEdge_21 : decode cX8_isEdge 21 = .ok (.iload_n 3, 1) := by decide +kernel
theorem dX8_isEdge_22 : decode cX8_isEdge 22 = .ok (.iload 4, 2) := by decide +kernel
theorem dX8_isEdge_24 : decode cX8_isEdge 24 = .ok (.iconst 1, 1) := by decide +kernel
theorem dX8_isEdge_25 : decode cX8_isEdge 25 = .ok (.if_icmp .ne 7, 3) := by decide +kernel
theorem dX8_isEdge_28 : decode cX8_isEdge 28 = .ok (.iconst 1, 1) := by decide +kernel
theorem dX8_isEdge_29 : decode cX8_isEdge 29 = .ok (.goto 4, 3) := by decide +kernel
theorem dX8_isEdge_32 : decode cX8_isEdge 32 = .ok (.iconst 0, 1) := by decide +kernel
theorem dX8_isEdge_33 : decode cX8_isEdge 33 = .ok (.invokevirtual 154, 3) := by decide +kernel
theorem dX8_isEdge_36 : decode cX8_isEdge 36 = .ok (.aload_n 0, 1) := by decide +kernel
theorem dX8_isEdge_37 : decode cX8_isEdge 37 = .ok (.iload_n 2, 1) := by decide +kernel
theorem dX8_isEdge_38 : decode cX8_isEdge 38 = .ok (.iload_n 3, 1) := by decide +kernel
theorem dX8_isEdge_39 : decode cX8_isEdge 39 = .ok (.iload 4, 2) := by decide +kernel
theorem dX8_isEdge_41 : decode cX8_isEdge 41 = .ok (.iconst 1, 1) := by decide +kernel
theorem dX8_isEdge_42 : decode cX8_isEdge 42 = .ok (.if_icmp .ne 7, 3) := by decide +kernel
theorem dX8_isEdge_45 : decode cX8_isEdge 45 = .ok (.iconst 1, 1) := by decide +kernel
theorem dX8_isEdge_46 : decode cX8_isEdge 46 = .ok (.goto 4, 3) := by decide +kernel
theorem dX8_isEdge_49 : decode cX8_isEdge 49 = .ok (.iconst 0, 1) := by decide +kernel
theorem dX8_isEdge_50 : decode cX8_isEdge 50 = .ok (.invokevirtual 154, 3) := by decide +kernel
theorem dX8_isEdge_53 : decode cX8_isEdge 53 = .ok (.isub, 1) := by decide +kernel
theorem dX8_isEdge_54 : decode cX8_isEdge 54 = .ok (.invokestatic 158, 3) := by decide +kernel
theorem dX8_isEdge_57 : decode cX8_isEdge 57 = .ok (.aload_n 0, 1) := by decide +kernel
theorem dX8_isEdge_58 : decode cX8_isEdge 58 = .ok (.getfield 118, 3) := by decide +kernel
theorem dX8_isEdge_61 : decode cX8_isEdge 61 = .ok (.if_icmp .lt 5, 3) := by decide +kernel
theorem dX8_isEdge_64 : decode cX8_isEdge 64 = .ok (.iconst 1, 1) := by decide +kernel
theorem dX8_isEdge_65 : decode cX8_isEdge 65 = .ok (.ireturn, 1) := by decide +kernel
theorem dX8_isEdge_66 : decode cX8_isEdge 66 = .ok (.iinc 4 1, 3) := by decide +kernel
theorem dX8_isEdge_69 : decode cX8_isEdge 69 = .ok (.goto (-56), 3) := by decide +kernel
theorem dX8_isEdge_72 : decode cX8_isEdge 72 = .ok (.iinc 3 1, 3) := by decide +kernel
theorem dX8_isEdge_75 : decode cX8_isEdge 75 = .ok (.goto (-73), 3) := by decide +kernel
theorem dX8_isEdge_78 : decode cX8_isEdge 78 = .ok (.iconst 0, 1) := by decide +kernel
theorem dX8_isEdge_79 : decode cX8_isEdge 79 = .ok (.ireturn, 1) := by decide +kernel
set_option maxRecDepth 20000 in
theorem ggX8_seenOf_X8_all : GoodIn wsX8_seenOf wsX8_all := goodIn_r _ [7, 2, 1, 40, 41, 42, 43, 44, 45, 46, 47, 48, 49, 50, 51, 52, 53, 54, 55, 56, 57, 58, 59, 60, 61, 62, 63, 64, 65, 66, 67, 68, 69, 70, 71, 72, 73, 74] (by decide +kernel) (by decide +kernel)
set_option maxRecDepth 20000 in
theorem gX8_seenOf_X8_all : GoodIn wsX8_seenOf (wsV RX8 81 RX8 yX8_all wsX8_all) := goodIn_app (goodIn_of _ (by decide +kernel)) ggX8_seenOf_X8_all
set_option maxRecDepth 20000 in
theorem ggX8_seenOf_X8_isEdge : GoodIn wsX8_seenOf wsX8_isEdge := goodIn_r _ [11, 12, 13, 14, 15, 16, 6, 17, 18, 19, 20, 21, 22, 23, 24, 25, 26, 27, 28, 29, 30, 31, 32, 33, 34, 35, 36, 37, 38, 39, 40, 41, 42, 43, 44, 45, 46, 47, 48, 49, 50, 51, 52, 53, 54, 55, 56, 57, 58, 59, 60, 61, 62, 63, 64, 65, 66, 67, 68, 69, 70, 71, 72, 73, 74] (by decide +kernel) (by decide +kernel)
set_option maxRecDepth 20000 in
theorem gX8_seenOf_X8_isEdge : GoodIn wsX8_seenOf (wsV RX8 161 RX8 yX8_isEdge wsX8_isEdge) := goodIn_app (goodIn_of _ (by decide +kernel)) ggX8_seenOf_X8_isEdge
theorem dX8_seenOf_0 : decode cX8_seenOf 0 = .ok (.iconst 0, 1) := by decide +kernel
theorem dX8_seenOf_1 : decode cX8_seenOf 1 = .ok (.istore_n 2, 1) := by decide +kernel
theorem dX8_seenOf_2 : decode cX8_seenOf 2 = .ok (.iconst 0, 1) := by decide +kernel
theorem dX8_seenOf_3 : decode cX8_seenOf 3 = .ok (.istore_n 3, 1) := by decide +kernel
theorem dX8_seenOf_4 : decode cX8_seenOf 4 = .ok (.iload_n 3, 1) := by decide +kernel
theorem dX8_seenOf_5 : decode cX8_seenOf 5 = .ok (.aload_n 0, 1) := by decide +kernel
theorem dX8_seenOf_6 : decode cX8_seenOf 6 = .ok (.invokevirtual 81, 3) := by decide +kernel
theorem dX8_seenOf_9 : decode cX8_seenOf 9 = .ok (.if_icmp .ge 143, 3) := by decide +kernel
theorem dX8_seenOf_12 : decode cX8_seenOf 12 = .ok (.iload_n 3, 1) := by decide +kernel
theorem dX8_seenOf_13 : decode cX8_seenOf 13 = .ok (.aload_n 0, 1) := by decide +kernel
theorem dX8_seenOf_14 : decode cX8_seenOf 14 = .ok (.getfield 78, 3) := by decide +kernel
theorem dX8_seenOf_17 : decode cX8_seenOf 17 = .ok (.irem, 1) := by decide +kernel
theorem dX8_seenOf_18 : decode cX8_seenOf 18 = .ok (.aload_n 0, 1) := by decide +kernel
theorem dX8_seenOf_19 : decode cX8_seenOf 19 = .ok (.getfield 78, 3) := by decide +kernel
theorem dX8_seenOf_22 : decode cX8_seenOf 22 = .ok (.iconst 1, 1) := by decide +kernel
theorem dX8_seenOf_23 : decode cX8_seenOf 23 = .ok (.isub, 1) := by decide +kernel
theorem dX8_seenOf_24 : decode cX8_seenOf 24 = .ok (.if_icmp .ge 25, 3) := by decide +kernel
theorem dX8_seenOf_27 : decode cX8_seenOf 27 = .ok (.iload_n 1, 1) := by decide +kernel
theorem dX8_seenOf_28 : decode cX8_seenOf 28 = .ok (.bipush (-9), 2) := by decide +kernel
theorem dX8_seenOf_30 : decode cX8_seenOf 30 = .ok (.if_icmp .eq 15, 3) := by decide +kernel
theorem dX8_seenOf_33 : decode cX8_seenOf 33 = .ok (.iload_n 1, 1) := by decide +kernel
theorem dX8_seenOf_34 : decode cX8_seenOf 34 = .ok (.iload_n 3, 1) := by decide +kernel
theorem dX8_seenOf_35 : decode cX8_seenOf 35 = .ok (.if_icmp .eq 10, 3) := by decide +kernel
theorem dX8_seenOf_38 : decode cX8_seenOf 38 = .ok (.iload_n 1, 1) := by decide +kernel
theorem dX8_seenOf_39 : decode cX8_seenOf 39 = .ok (.iload_n 3, 1) := by decide +kernel
theorem dX8_seenOf_40 : decode cX8_seenOf 40 = .ok (.iconst 1, 1) := by decide +kernel
theorem dX8_seenOf_41 : decode cX8_seenOf 41 = .ok (.iadd, 1) := by decide +kernel
theorem dX8_seenOf_42 : decode cX8_seenOf 42 = .ok (.if_icmp .ne 7, 3) := by decide +kernel
theorem dX8_seenOf_45 : decode cX8_seenOf 45 = .ok (.iconst 1, 1) := by decide +kernel
theorem dX8_seenOf_46 : decode cX8_seenOf 46 = .ok (.goto 4, 3) := by decide +kernel
theorem dX8_seenOf_49 : decode cX8_seenOf 49 = .ok (.iconst 0, 1) := by decide +kernel
theorem dX8_seenOf_50 : decode cX8_seenOf 50 = .ok (.istore 4, 2) := by decide +kernel
theorem dX8_seenOf_52 : decode cX8_seenOf 52 = .ok (.iload_n 3, 1) := by decide +kernel
theorem dX8_seenOf_53 : decode cX8_seenOf 53 = .ok (.aload_n 0, 1) := by decide +kernel
theorem dX8_seenOf_54 : decode cX8_seenOf 54 = .ok (.getfield 78, 3) := by decide +kernel
theorem dX8_seenOf_57 : decode cX8_seenOf 57 = .ok (.idiv, 1) := by decide +kernel
theorem dX8_seenOf_58 : decode cX8_seenOf 58 = .ok (.aload_n 0, 1) := by decide +kernel
theorem dX8_seenOf_59 : decode cX8_seenOf 59 = .ok (.getfield 75, 3) := by decide +kernel
theorem dX8_seenOf_62 : decode cX8_seenOf 62 = .ok (.iconst 1, 1) := by decide +kernel
theorem dX8_seenOf_63 : decode cX8_seenOf 63 = .ok (.isub, 1) := by decide +kernel
theorem dX8_seenOf_64 : decode cX8_seenOf 64 = .ok (.if_icmp .ge 28, 3) := by decide +kernel
theorem dX8_seenOf_67 : decode cX8_seenOf 67 = .ok (.iload_n 1, 1) := by decide +kernel
theorem dX8_seenOf_68 : decode cX8_seenOf 68 = .ok (.bipush (-9), 2) := by decide +kernel
theorem dX8_seenOf_70 : decode cX8_seenOf 70 = .ok (.if_icmp .eq 18, 3) := by decide +kernel
theorem dX8_seenOf_73 : decode cX8_seenOf 73 = .ok (.iload_n 1, 1) := by decide +kernel
theorem dX8_seenOf_74 : decode cX8_seenOf 74 = .ok (.iload_n 3, 1) := by decide +kernel
theorem dX8_seenOf_75 : decode cX8_seenOf 75 = .ok (.if_icmp .eq 13, 3) := by decide +kernel
theorem dX8_seenOf_78 : decode cX8_seenOf 78 = .ok (.iload_n 1, 1) := by decide +kernel
theorem dX8_seenOf_79 : decode cX8_seenOf 79 = .ok (.iload_n 3, 1) := by decide +kernel
theorem dX8_seenOf_80 : decode cX8_seenOf 80 = .ok (.aload_n 0, 1) := by decide +kernel
theorem dX8_seenOf_81 : decode cX8_seenOf 81 = .ok (.getfield 78, 3) := by decide +kernel
theorem dX8_seenOf_84 : decode cX8_seenOf 84 = .ok (.iadd, 1) := by decide +kernel
theorem dX8_seenOf_85 : decode cX8_seenOf 85 = .ok (.if_icmp .ne 7, 3) := by decide +kernel
theorem dX8_seenOf_88 : decode cX8_seenOf 88 = .ok (.iconst 1, 1) := by decide +kernel
theorem dX8_seenOf_89 : decode cX8_seenOf 89 = .ok (.goto 4, 3) := by decide +kernel
theorem dX8_seenOf_92 : decode cX8_seenOf 92 = .ok (.iconst 0, 1) := by decide +kernel
theorem dX8_seenOf_93 : decode cX8_seenOf 93 = .ok (.istore 5, 2) := by decide +kernel
theorem dX8_seenOf_95 : decode cX8_seenOf 95 = .ok (.iload_n 2, 1) := by decide +kernel
theorem dX8_seenOf_96 : decode cX8_seenOf 96 = .ok (.iload 4, 2) := by decide +kernel
theorem dX8_seenOf_98 : decode cX8_seenOf 98 = .ok (.ifCond .eq 18, 3) := by decide +kernel
theorem dX8_seenOf_101 : decode cX8_seenOf 101 = .ok (.aload_n 0, 1) := by decide +kernel
theorem dX8_seenOf_102 : decode cX8_seenOf 102 = .ok (.iload_n 3, 1) := by decide +kernel
theorem dX8_seenOf_103 : decode cX8_seenOf 103 = .ok (.iload_n 3, 1) := by decide +kernel
theorem dX8_seenOf_104 : decode cX8_seenOf 104 = .ok (.iconst 1, 1) := by decide +kernel
theorem dX8_seenOf_105 : decode cX8_seenOf 105 = .ok (.iadd, 1) := by decide +kernel
theorem dX8_seenOf_106 : decode cX8_seenOf 106 = .ok (.invokevirtual 161, 3) := by decide +kernel
theorem dX8_seenOf_109 : decode cX8_seenOf 109 = .ok (.ifCond .eq 7, 3) := by decide +kernel
theorem dX8_seenOf_112 : decode cX8_seenOf 112 = .ok (.iconst 1, 1) := by decide +kernel
theorem dX8_seenOf_113 : decode cX8_seenOf 113 = .ok (.goto 4, 3) := by decide +kernel
theorem dX8_seenOf_116 : decode cX8_seenOf 116 = .ok (.iconst 0, 1) := by decide +kernel
theorem dX8_seenOf_117 : decode cX8_seenOf 117 = .ok (.iadd, 1) := by decide +kernel
theorem dX8_seenOf_118 : decode cX8_seenOf 118 = .ok (.istore_n 2, 1) := by decide +kernel
theorem dX8_seenOf_119 : decode cX8_seenOf 119 = .ok (.iload_n 2, 1) := by decide +kernel
theorem dX8_seenOf_120 : decode cX8_seenOf 120 = .ok (.iload 5, 2) := by decide +kernel
theorem dX8_seenOf_122 : decode cX8_seenOf 122 = .ok (.ifCond .eq 21, 3) := by decide +kernel
theorem dX8_seenOf_125 : decode cX8_seenOf 125 = .ok (.aload_n 0, 1) := by decide +kernel
theorem dX8_seenOf_126 : decode cX8_seenOf 126 = .ok (.iload_n 3, 1) := by decide +kernel
theorem dX8_seenOf_127 : decode cX8_seenOf 127 = .ok (.iload_n 3, 1) := by decide +kernel
theorem dX8_seenOf_128 : decode cX8_seenOf 128 = .ok (.aload_n 0, 1) := by decide +kernel
theorem dX8_seenOf_129 : decode cX8_seenOf 129 = .ok (.getfield 78, 3) := by decide +kernel
theorem dX8_seenOf_132 : decode cX8_seenOf 132 = .ok (.iadd, 1) := by decide +kernel
theorem dX8_seenOf_133 : decode cX8_seenOf 133 = .ok (.invokevirtual 161, 3) := by decide +kernel
theorem dX8_seenOf_136 : decode cX8_seenOf 136 = .ok (.ifCond .eq 7, 3) := by decide +kernel
theorem dX8_seenOf_139 : decode cX8_seenOf 139 = .ok (.iconst 1, 1) := by decide +kernel
theorem dX8_seenOf_140 : decode cX8_seenOf 140 = .ok (.goto 4, 3) := by decide +kernel
theorem dX8_seenOf_143 : decode cX8_seenOf 143 = .ok (.iconst 0, 1) := by decide +kernel
theorem dX8_seenOf_144 : decode cX8_seenOf 144 = .ok (.iadd, 1) := by decide +kernel
theorem dX8_seenOf_145 : decode cX8_seenOf 145 = .ok (.istore_n 2, 1) := by decide +kernel
theorem dX8_seenOf_146 : decode cX8_seenOf 146 = .ok (.iinc 3 1, 3) := by decide +kernel
theorem dX8_seenOf_149 : decode cX8_seenOf 149 = .ok (.goto (-145), 3) := by decide +kernel
theorem dX8_seenOf_152 : decode cX8_seenOf 152 = .ok (.iload_n 2, 1) := by decide +kernel
theorem dX8_seenOf_153 : decode cX8_seenOf 153 = .ok (.ireturn, 1) := by decide +kernel
set_option maxRecDepth 20000 in
theorem ggX8_seen_X8_seenOf : GoodIn wsX8_seen wsX8_seenOf := goodIn_r _ [5, 6, 7, 8, 9, 10, 4, 11, 12, 13, 14, 15, 16, 17, 18, 19, 20, 21, 22, 23, 24, 25, 26, 27, 28, 29, 30, 31, 32, 33, 34, 35, 36, 37, 38, 39, 40, 41, 42, 43, 48, 49, 50, 51, 52, 53, 54, 55, 56, 57, 58, 59, 60, 61, 62, 63, 64, 65, 66, 67, 68, 69, 70, 71, 72, 73, 74, 75, 76, 77, 78, 79, 80, 81, 82] (by decide +kernel) (by decide +kernel)
set_option maxRecDepth 20000 in
theorem gX8_seen_X8_seenOf : GoodIn wsX8_seen (wsV RX8 165 RX8 yX8_seenOf wsX8_seenOf) := goodIn_app (goodIn_of _ (by decide +kernel)) ggX8_seen_X8_seenOf
set_option maxRecDepth 20000 in
theorem ggX8_seen_X8_isCell : GoodIn wsX8_seen wsX8_isCell := goodIn_r _ [47, 8, 9, 10, 4, 11, 7, 6, 48, 49, 50, 51, 52, 53, 54, 55, 56, 57, 58, 59, 60, 61, 62, 63, 64, 65, 66, 67, 68, 69, 70, 71, 72, 73, 74, 75, 76, 77, 78, 79, 80, 81, 82] (by decide +kernel) (by decide +kernel)
set_option maxRecDepth 20000 in
theorem gX8_seen_X8_isCell : GoodIn wsX8_seen (wsV RX8 134 RX8 yX8_isCell wsX8_isCell) := goodIn_app (goodIn_of _ (by decide +kernel)) ggX8_seen_X8_isCell
theorem dX8_seen_0 : decode cX8_seen 0 = .ok (.iload_n 1, 1) := by decide +kernel
theorem dX8_seen_1 : decode cX8_seen 1 = .ok (.iconst (-1), 1) := by decide +kernel
theorem dX8_seen_2 : decode cX8_seen 2 = .ok (.if_icmp .ne 10, 3) := by decide +kernel
theorem dX8_seen_5 : decode cX8_seen 5 = .ok (.aload_n 0, 1) := by decide +kernel
theorem dX8_seen_6 : decode cX8_seen 6 = .ok (.bipush (-9), 2) := by decide +kernel
theorem dX8_seen_8 : decode cX8_seen 8 = .ok (.invokevirtual 165, 3) := by decide +kernel
theorem dX8_seen_11 : decode cX8_seen 11 = .ok (.ireturn, 1) := by decide +kernel
theorem dX8_seen_12 : decode cX8_seen 12 = .ok (.aload_n 0, 1) := by decide +kernel
theorem dX8_seen_13 : decode cX8_seen 13 = .ok (.iload_n 1, 1) := by decide +kernel
theorem dX8_seen_14 : decode cX8_seen 14 = .ok (.invokevirtual 134, 3) := by decide +kernel
theorem dX8_seen_17 : decode cX8_seen 17 = .ok (.ifCond .eq 11, 3) := by decide +kernel
theorem dX8_seen_20 : decode cX8_seen 20 = .ok (.aload_n 0, 1) := by decide +kernel
theorem dX8_seen_21 : decode cX8_seen 21 = .ok (.iload_n 1, 1) := by decide +kernel
theorem dX8_seen_22 : decode cX8_seen 22 = .ok (.invokevirtual 165, 3) := by decide +kernel
theorem dX8_seen_25 : decode cX8_seen 25 = .ok (.goto 4, 3) := by decide +kernel
theorem dX8_seen_28 : decode cX8_seen 28 = .ok (.iconst (-1), 1) := by decide +kernel
theorem dX8_seen_29 : decode cX8_seen 29 = .ok (.ireturn, 1) := by decide +kernel
theorem dX8_layMix_0 : decode cX8_layMix 0 = .ok (.iconst 0, 1) := by decide +kernel
theorem dX8_layMix_1 : decode cX8_layMix 1 = .ok (.istore_n 1, 1) := by decide +kernel
theorem dX8_layMix_2 : decode cX8_layMix 2 = .ok (.aload_n 0, 1) := by decide +kernel
theorem dX8_layMix_3 : decode cX8_layMix 3 = .ok (.bipush (-9), 2) := by decide +kernel
theorem dX8_layMix_5 : decode cX8_layMix 5 = .ok (.putfield 168, 3) := by decide +kernel
theorem dX8_layMix_8 : decode cX8_layMix 8 = .ok (.iconst 0, 1) := by decide +kernel
theorem dX8_layMix_9 : decode cX8_layMix 9 = .ok (.istore_n 2, 1) := by decide +kernel
theorem dX8_layMix_10 : decode cX8_layMix 10 = .ok (.iload_n 2, 1) := by decide +kernel
theorem dX8_layMix_11 : decode cX8_layMix 11 = .ok (.iconst 4, 1) := by decide +kernel
theorem dX8_layMix_12 : decode cX8_layMix 12 = .ok (.if_icmp .ge 53, 3) := by decide +kernel
theorem dX8_layMix_15 : decode cX8_layMix 15 = .ok (.iload_n 1, 1) := by decide +kernel
theorem dX8_layMix_16 : decode cX8_layMix 16 = .ok (.aload_n 0, 1) := by decide +kernel
theorem dX8_layMix_17 : decode cX8_layMix 17 = .ok (.getfield 47, 3) := by decide +kernel
theorem dX8_layMix_20 : decode cX8_layMix 20 = .ok (.iload_n 2, 1) := by decide +kernel
theorem dX8_layMix_21 : decode cX8_layMix 21 = .ok (.iaload, 1) := by decide +kernel
theorem dX8_layMix_22 : decode cX8_layMix 22 = .ok (.iadd, 1) := by decide +kernel
theorem dX8_layMix_23 : decode cX8_layMix 23 = .ok (.istore_n 1, 1) := by decide +kernel
theorem dX8_layMix_24 : decode cX8_layMix 24 = .ok (.aload_n 0, 1) := by decide +kernel
theorem dX8_layMix_25 : decode cX8_layMix 25 = .ok (.aload_n 0, 1) := by decide +kernel
theorem dX8_layMix_26 : decode cX8_layMix 26 = .ok (.getfield 168, 3) := by decide +kernel
theorem dX8_layMix_29 : decode cX8_layMix 29 = .ok (.bipush (-9), 2) := by decide +kernel
theorem dX8_layMix_31 : decode cX8_layMix 31 = .ok (.if_icmp .ne 21, 3) := by decide +kernel
theorem dX8_layMix_34 : decode cX8_layMix 34 = .ok (.aload_n 0, 1) := by decide +kernel
theorem dX8_layMix_35 : decode cX8_layMix 35 = .ok (.getfield 47, 3) := by decide +kernel
theorem dX8_layMix_38 : decode cX8_layMix 38 = .ok (.iload_n 2, 1) := by decide +kernel
theorem dX8_layMix_39 : decode cX8_layMix 39 = .ok (.iaload, 1) := by decide +kernel
theorem dX8_layMix_40 : decode cX8_layMix 40 = .ok (.ifCond .le 12, 3) := by decide +kernel
theorem dX8_layMix_43 : decode cX8_layMix 43 = .ok (.aload_n 0, 1) := by decide +kernel
theorem dX8_layMix_44 : decode cX8_layMix 44 = .ok (.getfield 38, 3) := by decide +kernel
theorem dX8_layMix_47 : decode cX8_layMix 47 = .ok (.iload_n 2, 1) := by decide +kernel
theorem dX8_layMix_48 : decode cX8_layMix 48 = .ok (.iaload, 1) := by decide +kernel
theorem dX8_layMix_49 : decode cX8_layMix 49 = .ok (.goto 7, 3) := by decide +kernel
theorem dX8_layMix_52 : decode cX8_layMix 52 = .ok (.aload_n 0, 1) := by decide +kernel
theorem dX8_layMix_53 : decode cX8_layMix 53 = .ok (.getfield 168, 3) := by decide +kernel
theorem dX8_layMix_56 : decode cX8_layMix 56 = .ok (.putfield 168, 3) := by decide +kernel
theorem dX8_layMix_59 : decode cX8_layMix 59 = .ok (.iinc 2 1, 3) := by decide +kernel
theorem dX8_layMix_62 : decode cX8_layMix 62 = .ok (.goto (-52), 3) := by decide +kernel
theorem dX8_layMix_65 : decode cX8_layMix 65 = .ok (.iconst 0, 1) := by decide +kernel
theorem dX8_layMix_66 : decode cX8_layMix 66 = .ok (.istore_n 2, 1) := by decide +kernel
theorem dX8_layMix_67 : decode cX8_layMix 67 = .ok (.iload_n 2, 1) := by decide +kernel
theorem dX8_layMix_68 : decode cX8_layMix 68 = .ok (.iconst 3, 1) := by decide +kernel
theorem dX8_layMix_69 : decode cX8_layMix 69 = .ok (.if_icmp .ge 57, 3) := by decide +kernel
theorem dX8_layMix_72 : decode cX8_layMix 72 = .ok (.iconst 0, 1) := by decide +kernel
theorem dX8_layMix_73 : decode cX8_layMix 73 = .ok (.istore_n 3, 1) := by decide +kernel
theorem dX8_layMix_74 : decode cX8_layMix 74 = .ok (.iconst 0, 1) := by decide +kernel
theorem dX8_layMix_75 : decode cX8_layMix 75 = .ok (.istore 4, 2) := by decide +kernel
theorem dX8_layMix_77 : decode cX8_layMix 77 = .ok (.iload 4, 2) := by decide +kernel
theorem dX8_layMix_79 : decode cX8_layMix 79 = .ok (.iconst 4, 1) := by decide +kernel
theorem dX8_layMix_80 : decode cX8_layMix 80 = .ok (.if_icmp .ge 31, 3) := by decide +kernel
theorem dX8_layMix_83 : decode cX8_layMix 83 = .ok (.iload_n 3, 1) := by decide +kernel
theorem dX8_layMix_84 : decode cX8_layMix 84 = .ok (.aload_n 0, 1) := by decide +kernel
theorem dX8_layMix_85 : decode cX8_layMix 85 = .ok (.getfield 47, 3) := by decide +kernel
theorem dX8_layMix_88 : decode cX8_layMix 88 = .ok (.iload 4, 2) := by decide +kernel
theorem dX8_layMix_90 : decode cX8_layMix 90 = .ok (.iaload, 1) := by decide +kernel
theorem dX8_layMix_91 : decode cX8_layMix 91 = .ok (.aload_n 0, 1) := by decide +kernel
theorem dX8_layMix_92 : decode cX8_layMix 92 = .ok (.getfield 41, 3) := by decide +kernel
theorem dX8_layMix_95 : decode cX8_layMix 95 = .ok (.iconst 3, 1) := by decide +kernel
theorem dX8_layMix_96 : decode cX8_layMix 96 = .ok (.iload 4, 2) := by decide +kernel
theorem dX8_layMix_98 : decode cX8_layMix 98 = .ok (.imul, 1) := by decide +kernel
theorem dX8_layMix_99 : decode cX8_layMix 99 = .ok (.iload_n 2, 1) := by decide +kernel
theorem dX8_layMix_100 : decode cX8_layMix 100 = .ok (.iadd, 1) := by decide +kernel
theorem dX8_layMix_101 : decode cX8_layMix 101 = .ok (.iaload, 1) := by decide +kernel
theorem dX8_layMix_102 : decode cX8_layMix 102 = .ok (.imul, 1) := by decide +kernel
theorem dX8_layMix_103 : decode cX8_layMix 103 = .ok (.iadd, 1) := by decide +kernel
theorem dX8_layMix_104 : decode cX8_layMix 104 = .ok (.istore_n 3, 1) := by decide +kernel
theorem dX8_layMix_105 : decode cX8_layMix 105 = .ok (.iinc 4 1, 3) := by decide +kernel
theorem dX8_layMix_108 : decode cX8_layMix 108 = .ok (.goto (-31), 3) := by decide +kernel
theorem dX8_layMix_111 : decode cX8_layMix 111 = .ok (.aload_n 0, 1) := by decide +kernel
theorem dX8_layMix_112 : decode cX8_layMix 112 = .ok (.getfield 50, 3) := by decide +kernel
theorem dX8_layMix_115 : decode cX8_layMix 115 = .ok (.iload_n 2, 1) := by decide +kernel
theorem dX8_layMix_116 : decode cX8_layMix 116 = .ok (.iload_n 3, 1) := by decide +kernel
theorem dX8_layMix_117 : decode cX8_layMix 117 = .ok (.iload_n 1, 1) := by decide +kernel
theorem dX8_layMix_118 : decode cX8_layMix 118 = .ok (.idiv, 1) := by decide +kernel
theorem dX8_layMix_119 : decode cX8_layMix 119 = .ok (.iastore, 1) := by decide +kernel
theorem dX8_layMix_120 : decode cX8_layMix 120 = .ok (.iinc 2 1, 3) := by decide +kernel
theorem dX8_layMix_123 : decode cX8_layMix 123 = .ok (.goto (-56), 3) := by decide +kernel
theorem dX8_layMix_126 : decode cX8_layMix 126 = .ok (.return_, 1) := by decide +kernel
set_option maxRecDepth 20000 in
theorem ggX8_areDrops_X8_within : GoodIn wsX8_areDrops wsX8_within := goodIn_r _ [5] (by decide +kernel) (by decide +kernel)
set_option maxRecDepth 20000 in
theorem gX8_areDrops_X8_within : GoodIn wsX8_areDrops (va_wsS RX8 71 yX8_within wsX8_within) := goodIn_app (goodIn_of _ (by decide +kernel)) ggX8_areDrops_X8_within
set_option maxRecDepth 20000 in
theorem ggX8_areDrops_X8_isCoat : GoodIn wsX8_areDrops wsX8_isCoat := goodIn_r _ [9, 10, 11, 12, 13, 14, 15, 16, 17, 18, 19, 20, 21, 22, 23, 24, 25, 26, 27, 28, 29, 30, 31, 32, 33, 34, 35, 36, 37, 38, 39, 40, 41, 42, 43, 44, 45] (by decide +kernel) (by decide +kernel)
set_option maxRecDepth 20000 in
theorem gX8_areDrops_X8_isCoat : GoodIn wsX8_areDrops (wsV RX8 137 RX8 yX8_isCoat wsX8_isCoat) := goodIn_app (goodIn_of _ (by decide +kernel)) ggX8_areDrops_X8_isCoat
theorem dX8_areDrops_0 : decode cX8_areDrops 0 = .ok (.iconst 0, 1) := by decide +kernel
theorem dX8_areDrops_1 : decode cX8_areDrops 1 = .ok (.istore_n 1, 1) := by decide +kernel
theorem dX8_areDrops_2 : decode cX8_areDrops 2 = .ok (.iconst 0, 1) := by decide +kernel
theorem dX8_areDrops_3 : decode cX8_areDrops 3 = .ok (.istore_n 2, 1) := by decide +kernel
theorem dX8_areDrops_4 : decode cX8_areDrops 4 = .ok (.iload_n 2, 1) := by decide +kernel
theorem dX8_areDrops_5 : decode cX8_areDrops 5 = .ok (.iconst 4, 1) := by decide +kernel
theorem dX8_areDrops_6 : decode cX8_areDrops 6 = .ok (.if_icmp .ge 52, 3) := by decide +kernel
theorem dX8_areDrops_9 : decode cX8_areDrops 9 = .ok (.aload_n 0, 1) := by decide +kernel
theorem dX8_areDrops_10 : decode cX8_areDrops 10 = .ok (.getfield 47, 3) := by decide +kernel
theorem dX8_areDrops_13 : decode cX8_areDrops 13 = .ok (.iload_n 2, 1) := by decide +kernel
theorem dX8_areDrops_14 : decode cX8_areDrops 14 = .ok (.iaload, 1) := by decide +kernel
theorem dX8_areDrops_15 : decode cX8_areDrops 15 = .ok (.iconst 0, 1) := by decide +kernel
theorem dX8_areDrops_16 : decode cX8_areDrops 16 = .ok (.bipush 9, 2) := by decide +kernel
theorem dX8_areDrops_18 : decode cX8_areDrops 18 = .ok (.invokestatic 71, 3) := by decide +kernel
theorem dX8_areDrops_21 : decode cX8_areDrops 21 = .ok (.ifCond .eq 20, 3) := by decide +kernel
theorem dX8_areDrops_24 : decode cX8_areDrops 24 = .ok (.aload_n 0, 1) := by decide +kernel
theorem dX8_areDrops_25 : decode cX8_areDrops 25 = .ok (.getfield 47, 3) := by decide +kernel
theorem dX8_areDrops_28 : decode cX8_areDrops 28 = .ok (.iload_n 2, 1) := by decide +kernel
theorem dX8_areDrops_29 : decode cX8_areDrops 29 = .ok (.iaload, 1) := by decide +kernel
theorem dX8_areDrops_30 : decode cX8_areDrops 30 = .ok (.ifCond .le 13, 3) := by decide +kernel
theorem dX8_areDrops_33 : decode cX8_areDrops 33 = .ok (.aload_n 0, 1) := by decide +kernel
theorem dX8_areDrops_34 : decode cX8_areDrops 34 = .ok (.iload_n 2, 1) := by decide +kernel
theorem dX8_areDrops_35 : decode cX8_areDrops 35 = .ok (.invokevirtual 137, 3) := by decide +kernel
theorem dX8_areDrops_38 : decode cX8_areDrops 38 = .ok (.ifCond .ne 5, 3) := by decide +kernel
theorem dX8_areDrops_41 : decode cX8_areDrops 41 = .ok (.iconst 0, 1) := by decide +kernel
theorem dX8_areDrops_42 : decode cX8_areDrops 42 = .ok (.ireturn, 1) := by decide +kernel
theorem dX8_areDrops_43 : decode cX8_areDrops 43 = .ok (.iload_n 1, 1) := by decide +kernel
theorem dX8_areDrops_44 : decode cX8_areDrops 44 = .ok (.aload_n 0, 1) := by decide +kernel
theorem dX8_areDrops_45 : decode cX8_areDrops 45 = .ok (.getfield 47, 3) := by decide +kernel
theorem dX8_areDrops_48 : decode cX8_areDrops 48 = .ok (.iload_n 2, 1) := by decide +kernel
theorem dX8_areDrops_49 : decode cX8_areDrops 49 = .ok (.iaload, 1) := by decide +kernel
theorem dX8_areDrops_50 : decode cX8_areDrops 50 = .ok (.iadd, 1) := by decide +kernel
theorem dX8_areDrops_51 : decode cX8_areDrops 51 = .ok (.istore_n 1, 1) := by decide +kernel
theorem dX8_areDrops_52 : decode cX8_areDrops 52 = .ok (.iinc 2 1, 3) := by decide +kernel
theorem dX8_areDrops_55 : decode cX8_areDrops 55 = .ok (.goto (-51), 3) := by decide +kernel
theorem dX8_areDrops_58 : decode cX8_areDrops 58 = .ok (.iload_n 1, 1) := by decide +kernel
theorem dX8_areDrops_59 : decode cX8_areDrops 59 = .ok (.iconst 1, 1) := by decide +kernel
theorem dX8_areDrops_60 : decode cX8_areDrops 60 = .ok (.bipush 12, 2) := by decide +kernel
theorem dX8_areDrops_62 : decode cX8_areDrops 62 = .ok (.invokestatic 71, 3) := by decide +kernel
theorem dX8_areDrops_65 : decode cX8_areDrops 65 = .ok (.ireturn, 1) := by decide +kernel
set_option maxRecDepth 20000 in
theorem ggX8_mix_X8_areDrops : GoodIn wsX8_mix wsX8_areDrops := goodIn_r _ [9, 1, 10, 11, 8, 12, 13, 14, 15, 16, 2, 33, 34, 35, 36, 37, 38, 39, 40, 41, 42, 43, 44, 45, 46, 47, 48, 49, 50, 51, 52, 53, 54, 55, 56, 57, 58, 59, 60, 61, 62, 63, 64, 65, 66, 67] (by decide +kernel) (by decide +kernel)
set_option maxRecDepth 20000 in
theorem gX8_mix_X8_areDrops : GoodIn wsX8_mix (wsV RX8 171 RX8 yX8_areDrops wsX8_areDrops) := goodIn_app (goodIn_of _ (by decide +kernel)) ggX8_mix_X8_areDrops
set_option maxRecDepth 20000 in
theorem ggX8_mix_X8_all : GoodIn wsX8_mix wsX8_all := goodIn_r _ [20, 21, 22, 33, 34, 35, 36, 37, 38, 39, 40, 41, 42, 43, 44, 45, 46, 47, 48, 49, 50, 51, 52, 53, 54, 55, 56, 57, 58, 59, 60, 61, 62, 63, 64, 65, 66, 67] (by decide +kernel) (by decide +kernel)
set_option maxRecDepth 20000 in
theorem gX8_mix_X8_all : GoodIn wsX8_mix (wsV RX8 81 RX8 yX8_all wsX8_all) := goodIn_app (goodIn_of _ (by decide +kernel)) ggX8_mix_X8_all
set_option maxRecDepth 20000 in
theorem ggX8_mix_X8_layMix : GoodIn wsX8_mix wsX8_layMix := goodIn_r _ [26, 3, 1, 27, 28, 4, 33, 34, 35, 36, 37, 38, 39, 40, 41, 42, 43, 44, 45, 46, 47, 48, 49, 50, 51, 52, 53, 54, 55, 56, 57, 58, 59, 60, 61, 62, 63, 64, 65, 66, 67] (by decide +kernel) (by decide +kernel)
set_option maxRecDepth 20000 in
theorem gX8_mix_X8_layMix : GoodIn wsX8_mix (wsV RX8 175 RX8 yX8_layMix wsX8_layMix) := goodIn_app (goodIn_of _ (by decide +kernel)) ggX8_mix_X8_layMix
set_option maxRecDepth 20000 in
theorem ggX8_mix_X8_addCoat : GoodIn wsX8_mix wsX8_addCoat := goodIn_r _ [32, 27, 2, 28, 33, 34, 35, 36, 37, 38, 39, 40, 41, 42, 43, 44, 45, 46, 47, 48, 49, 50, 51, 52, 53, 54, 55, 56, 57, 58, 59, 60, 61, 62, 63, 64, 65, 66, 67] (by decide +kernel) (by decide +kernel)
set_option maxRecDepth 20000 in
theorem gX8_mix_X8_addCoat : GoodIn wsX8_mix (wsV RX8 127 RX8 yX8_addCoat wsX8_addCoat) := goodIn_app (goodIn_of _ (by decide +kernel)) ggX8_mix_X8_addCoat
theorem dX8_mix_0 : decode cX8_mix 0 = .ok (.aload_n 0, 1) := by decide +kernel
theorem dX8_mix_1 : decode cX8_mix 1 = .ok (.getfield 47, 3) := by decide +kernel
theorem dX8_mix_4 : decode cX8_mix 4 = .ok (.iconst 0, 1) := by decide +kernel
theorem dX8_mix_5 : decode cX8_mix 5 = .ok (.iload_n 1, 1) := by decide +kernel
theorem dX8_mix_6 : decode cX8_mix 6 = .ok (.iastore, 1) := by decide +kernel
theorem dX8_mix_7 : decode cX8_mix 7 = .ok (.aload_n 0, 1) := by decide +kernel
theorem dX8_mix_8 : decode cX8_mix 8 = .ok (.getfield 47, 3) := by decide +kernel
theorem dX8_mix_11 : decode cX8_mix 11 = .ok (.iconst 1, 1) := by decide +kernel
theorem dX8_mix_12 : decode cX8_mix 12 = .ok (.iload_n 2, 1) := by decide +kernel
theorem dX8_mix_13 : decode cX8_mix 13 = .ok (.iastore, 1) := by decide +kernel
theorem dX8_mix_14 : decode cX8_mix 14 = .ok (.aload_n 0, 1) := by decide +kernel
theorem dX8_mix_15 : decode cX8_mix 15 = .ok (.getfield 47, 3) := by decide +kernel
theorem dX8_mix_18 : decode cX8_mix 18 = .ok (.iconst 2, 1) := by decide +kernel
theorem dX8_mix_19 : decode cX8_mix 19 = .ok (.iload_n 3, 1) := by decide +kernel
theorem dX8_mix_20 : decode cX8_mix 20 = .ok (.iastore, 1) := by decide +kernel
theorem dX8_mix_21 : decode cX8_mix 21 = .ok (.aload_n 0, 1) := by decide +kernel
theorem dX8_mix_22 : decode cX8_mix 22 = .ok (.getfield 47, 3) := by decide +kernel
theorem dX8_mix_25 : decode cX8_mix 25 = .ok (.iconst 3, 1) := by decide +kernel
theorem dX8_mix_26 : decode cX8_mix 26 = .ok (.iload 4, 2) := by decide +kernel
theorem dX8_mix_28 : decode cX8_mix 28 = .ok (.iastore, 1) := by decide +kernel
theorem dX8_mix_29 : decode cX8_mix 29 = .ok (.aload_n 0, 1) := by decide +kernel
theorem dX8_mix_30 : decode cX8_mix 30 = .ok (.invokevirtual 171, 3) := by decide +kernel
theorem dX8_mix_33 : decode cX8_mix 33 = .ok (.ifCond .ne 6, 3) := by decide +kernel
theorem dX8_mix_36 : decode cX8_mix 36 = .ok (.bipush (-2), 2) := by decide +kernel
theorem dX8_mix_38 : decode cX8_mix 38 = .ok (.ireturn, 1) := by decide +kernel
theorem dX8_mix_39 : decode cX8_mix 39 = .ok (.aload_n 0, 1) := by decide +kernel
theorem dX8_mix_40 : decode cX8_mix 40 = .ok (.invokevirtual 81, 3) := by decide +kernel
theorem dX8_mix_43 : decode cX8_mix 43 = .ok (.ifCond .ne 6, 3) := by decide +kernel
theorem dX8_mix_46 : decode cX8_mix 46 = .ok (.bipush (-3), 2) := by decide +kernel
theorem dX8_mix_48 : decode cX8_mix 48 = .ok (.ireturn, 1) := by decide +kernel
theorem dX8_mix_49 : decode cX8_mix 49 = .ok (.aload_n 0, 1) := by decide +kernel
theorem dX8_mix_50 : decode cX8_mix 50 = .ok (.getfield 124, 3) := by decide +kernel
theorem dX8_mix_53 : decode cX8_mix 53 = .ok (.bipush 6, 2) := by decide +kernel
theorem dX8_mix_55 : decode cX8_mix 55 = .ok (.if_icmp .ne 6, 3) := by decide +kernel
theorem dX8_mix_58 : decode cX8_mix 58 = .ok (.bipush (-4), 2) := by decide +kernel
theorem dX8_mix_60 : decode cX8_mix 60 = .ok (.ireturn, 1) := by decide +kernel
theorem dX8_mix_61 : decode cX8_mix 61 = .ok (.aload_n 0, 1) := by decide +kernel
theorem dX8_mix_62 : decode cX8_mix 62 = .ok (.invokevirtual 175, 3) := by decide +kernel
theorem dX8_mix_65 : decode cX8_mix 65 = .ok (.aload_n 0, 1) := by decide +kernel
theorem dX8_mix_66 : decode cX8_mix 66 = .ok (.aload_n 0, 1) := by decide +kernel
theorem dX8_mix_67 : decode cX8_mix 67 = .ok (.getfield 168, 3) := by decide +kernel
theorem dX8_mix_70 : decode cX8_mix 70 = .ok (.aload_n 0, 1) := by decide +kernel
theorem dX8_mix_71 : decode cX8_mix 71 = .ok (.getfield 50, 3) := by decide +kernel
theorem dX8_mix_74 : decode cX8_mix 74 = .ok (.iconst 0, 1) := by decide +kernel
theorem dX8_mix_75 : decode cX8_mix 75 = .ok (.iaload, 1) := by decide +kernel
theorem dX8_mix_76 : decode cX8_mix 76 = .ok (.aload_n 0, 1) := by decide +kernel
theorem dX8_mix_77 : decode cX8_mix 77 = .ok (.getfield 50, 3) := by decide +kernel
theorem dX8_mix_80 : decode cX8_mix 80 = .ok (.iconst 1, 1) := by decide +kernel
theorem dX8_mix_81 : decode cX8_mix 81 = .ok (.iaload, 1) := by decide +kernel
theorem dX8_mix_82 : decode cX8_mix 82 = .ok (.aload_n 0, 1) := by decide +kernel
theorem dX8_mix_83 : decode cX8_mix 83 = .ok (.getfield 50, 3) := by decide +kernel
theorem dX8_mix_86 : decode cX8_mix 86 = .ok (.iconst 2, 1) := by decide +kernel
theorem dX8_mix_87 : decode cX8_mix 87 = .ok (.iaload, 1) := by decide +kernel
theorem dX8_mix_88 : decode cX8_mix 88 = .ok (.invokevirtual 127, 3) := by decide +kernel
theorem dX8_mix_91 : decode cX8_mix 91 = .ok (.ireturn, 1) := by decide +kernel
set_option maxRecDepth 20000 in
theorem ggX8_mixUnlike_X8_comes : GoodIn wsX8_mixUnlike wsX8_comes := goodIn_r _ [9, 10, 31, 32, 33, 34, 35, 36, 37, 38, 39, 40, 41, 42, 43, 44, 45, 46, 47, 48, 49, 50, 51, 52, 53, 54, 55, 56, 57, 58, 59, 60, 61, 62, 63, 64, 65] (by decide +kernel) (by decide +kernel)
set_option maxRecDepth 20000 in
theorem gX8_mixUnlike_X8_comes : GoodIn wsX8_mixUnlike (wsV RX8 140 RX8 yX8_comes wsX8_comes) := goodIn_app (goodIn_of _ (by decide +kernel)) ggX8_mixUnlike_X8_comes
set_option maxRecDepth 20000 in
theorem ggX8_mixUnlike_X8_lookNow : GoodIn wsX8_mixUnlike wsX8_lookNow := goodIn_r _ [14, 15, 16, 17, 18, 19, 20, 8, 21, 4, 22, 23, 24, 25, 26, 27, 5, 6, 7, 9, 10, 31, 32, 33, 34, 35, 36, 37, 38, 39, 40, 41, 42, 43, 44, 45, 46, 47, 48, 49, 50, 51, 52, 53, 54, 55, 56, 57, 58, 59, 60, 61, 62, 63, 64, 65] (by decide +kernel) (by decide +kernel)
set_option maxRecDepth 20000 in
theorem gX8_mixUnlike_X8_lookNow : GoodIn wsX8_mixUnlike (wsV RX8 154 RX8 yX8_lookNow wsX8_lookNow) := goodIn_app (goodIn_of _ (by decide +kernel)) ggX8_mixUnlike_X8_lookNow
set_option maxRecDepth 20000 in
theorem ggX8_mixUnlike_X8_size : GoodIn wsX8_mixUnlike wsX8_size := goodIn_r _ [30] (by decide +kernel) (by decide +kernel)
set_option maxRecDepth 20000 in
theorem gX8_mixUnlike_X8_size : GoodIn wsX8_mixUnlike (va_wsS RX8 158 yX8_size wsX8_size) := goodIn_app (goodIn_of _ (by decide +kernel)) ggX8_mixUnlike_X8_size
theorem dX8_mixUnlike_0 : decode cX8_mixUnlike 0 = .ok (.iconst 0, 1) := by decide +kernel
theorem dX8_mixUnlike_1 : decode cX8_mixUnlike 1 = .ok (.istore_n 2, 1) := by decide +kernel
theorem dX8_mixUnlike_2 : decode cX8_mixUnlike 2 = .ok (.iconst 0, 1) := by decide +kernel
theorem dX8_mixUnlike_3 : decode cX8_mixUnlike 3 = .ok (.istore_n 3, 1) := by decide +kernel
theorem dX8_mixUnlike_4 : decode cX8_mixUnlike 4 = .ok (.iload_n 3, 1) := by decide +kernel
theorem dX8_mixUnlike_5 : decode cX8_mixUnlike 5 = .ok (.aload_n 0, 1) := by decide +kernel
theorem dX8_mixUnlike_6 : decode cX8_mixUnlike 6 = .ok (.getfield 121, 3) := by decide +kernel
end
section
theorem dX8_mixUnlike_9 : decode cX8_mixUnlike 9 = .ok (.if_icmp .ge 127, 3) := by decide +kernel
theorem dX8_mixUnlike_12 : decode cX8_mixUnlike 12 = .ok (.iconst 0, 1) := by decide +kernel
theorem dX8_mixUnlike_13 : decode cX8_mixUnlike 13 = .ok (.istore 4, 2) := by decide +kernel
theorem dX8_mixUnlike_15 : decode cX8_mixUnlike 15 = .ok (.iload 4, 2) := by decide +kernel
theorem dX8_mixUnlike_17 : decode cX8_mixUnlike 17 = .ok (.iconst 2, 1) := by decide +kernel
theorem dX8_mixUnlike_18 : decode cX8_mixUnlike 18 = .ok (.if_icmp .ge 112, 3) := by decide +kernel
theorem dX8_mixUnlike_21 : decode cX8_mixUnlike 21 = .ok (.iconst 0, 1) := by decide +kernel
theorem dX8_mixUnlike_22 : decode cX8_mixUnlike 22 = .ok (.istore 5, 2) := by decide +kernel
theorem dX8_mixUnlike_24 : decode cX8_mixUnlike 24 = .ok (.iconst 0, 1) := by decide +kernel
theorem dX8_mixUnlike_25 : decode cX8_mixUnlike 25 = .ok (.istore 6, 2) := by decide +kernel
theorem dX8_mixUnlike_27 : decode cX8_mixUnlike 27 = .ok (.iload 6, 2) := by decide +kernel
theorem dX8_mixUnlike_29 : decode cX8_mixUnlike 29 = .ok (.iconst 3, 1) := by decide +kernel
theorem dX8_mixUnlike_30 : decode cX8_mixUnlike 30 = .ok (.if_icmp .ge 56, 3) := by decide +kernel
theorem dX8_mixUnlike_33 : decode cX8_mixUnlike 33 = .ok (.iload 5, 2) := by decide +kernel
theorem dX8_mixUnlike_35 : decode cX8_mixUnlike 35 = .ok (.aload_n 0, 1) := by decide +kernel
theorem dX8_mixUnlike_36 : decode cX8_mixUnlike 36 = .ok (.aload_n 0, 1) := by decide +kernel
theorem dX8_mixUnlike_37 : decode cX8_mixUnlike 37 = .ok (.getfield 168, 3) := by decide +kernel
theorem dX8_mixUnlike_40 : decode cX8_mixUnlike 40 = .ok (.aload_n 0, 1) := by decide +kernel
theorem dX8_mixUnlike_41 : decode cX8_mixUnlike 41 = .ok (.getfield 50, 3) := by decide +kernel
theorem dX8_mixUnlike_44 : decode cX8_mixUnlike 44 = .ok (.iload 6, 2) := by decide +kernel
theorem dX8_mixUnlike_46 : decode cX8_mixUnlike 46 = .ok (.iaload, 1) := by decide +kernel
theorem dX8_mixUnlike_47 : decode cX8_mixUnlike 47 = .ok (.iload 6, 2) := by decide +kernel
theorem dX8_mixUnlike_49 : decode cX8_mixUnlike 49 = .ok (.iconst 0, 1) := by decide +kernel
theorem dX8_mixUnlike_50 : decode cX8_mixUnlike 50 = .ok (.iconst 0, 1) := by decide +kernel
theorem dX8_mixUnlike_51 : decode cX8_mixUnlike 51 = .ok (.iload 4, 2) := by decide +kernel
theorem dX8_mixUnlike_53 : decode cX8_mixUnlike 53 = .ok (.iconst 1, 1) := by decide +kernel
theorem dX8_mixUnlike_54 : decode cX8_mixUnlike 54 = .ok (.if_icmp .ne 7, 3) := by decide +kernel
theorem dX8_mixUnlike_57 : decode cX8_mixUnlike 57 = .ok (.iconst 1, 1) := by decide +kernel
theorem dX8_mixUnlike_58 : decode cX8_mixUnlike 58 = .ok (.goto 4, 3) := by decide +kernel
theorem dX8_mixUnlike_61 : decode cX8_mixUnlike 61 = .ok (.iconst 0, 1) := by decide +kernel
theorem dX8_mixUnlike_62 : decode cX8_mixUnlike 62 = .ok (.invokevirtual 140, 3) := by decide +kernel
theorem dX8_mixUnlike_65 : decode cX8_mixUnlike 65 = .ok (.aload_n 0, 1) := by decide +kernel
theorem dX8_mixUnlike_66 : decode cX8_mixUnlike 66 = .ok (.getfield 44, 3) := by decide +kernel
theorem dX8_mixUnlike_69 : decode cX8_mixUnlike 69 = .ok (.iconst 3, 1) := by decide +kernel
theorem dX8_mixUnlike_70 : decode cX8_mixUnlike 70 = .ok (.iload_n 3, 1) := by decide +kernel
theorem dX8_mixUnlike_71 : decode cX8_mixUnlike 71 = .ok (.imul, 1) := by decide +kernel
theorem dX8_mixUnlike_72 : decode cX8_mixUnlike 72 = .ok (.iload 6, 2) := by decide +kernel
theorem dX8_mixUnlike_74 : decode cX8_mixUnlike 74 = .ok (.iadd, 1) := by decide +kernel
theorem dX8_mixUnlike_75 : decode cX8_mixUnlike 75 = .ok (.iaload, 1) := by decide +kernel
theorem dX8_mixUnlike_76 : decode cX8_mixUnlike 76 = .ok (.imul, 1) := by decide +kernel
theorem dX8_mixUnlike_77 : decode cX8_mixUnlike 77 = .ok (.iadd, 1) := by decide +kernel
theorem dX8_mixUnlike_78 : decode cX8_mixUnlike 78 = .ok (.istore 5, 2) := by decide +kernel
theorem dX8_mixUnlike_80 : decode cX8_mixUnlike 80 = .ok (.iinc 6 1, 3) := by decide +kernel
theorem dX8_mixUnlike_83 : decode cX8_mixUnlike 83 = .ok (.goto (-56), 3) := by decide +kernel
theorem dX8_mixUnlike_86 : decode cX8_mixUnlike 86 = .ok (.iload 5, 2) := by decide +kernel
theorem dX8_mixUnlike_88 : decode cX8_mixUnlike 88 = .ok (.aload_n 0, 1) := by decide +kernel
theorem dX8_mixUnlike_89 : decode cX8_mixUnlike 89 = .ok (.iload_n 1, 1) := by decide +kernel
theorem dX8_mixUnlike_90 : decode cX8_mixUnlike 90 = .ok (.iload_n 3, 1) := by decide +kernel
theorem dX8_mixUnlike_91 : decode cX8_mixUnlike 91 = .ok (.iload 4, 2) := by decide +kernel
theorem dX8_mixUnlike_93 : decode cX8_mixUnlike 93 = .ok (.iconst 1, 1) := by decide +kernel
theorem dX8_mixUnlike_94 : decode cX8_mixUnlike 94 = .ok (.if_icmp .ne 7, 3) := by decide +kernel
theorem dX8_mixUnlike_97 : decode cX8_mixUnlike 97 = .ok (.iconst 1, 1) := by decide +kernel
theorem dX8_mixUnlike_98 : decode cX8_mixUnlike 98 = .ok (.goto 4, 3) := by decide +kernel
theorem dX8_mixUnlike_101 : decode cX8_mixUnlike 101 = .ok (.iconst 0, 1) := by decide +kernel
theorem dX8_mixUnlike_102 : decode cX8_mixUnlike 102 = .ok (.invokevirtual 154, 3) := by decide +kernel
theorem dX8_mixUnlike_105 : decode cX8_mixUnlike 105 = .ok (.isub, 1) := by decide +kernel
theorem dX8_mixUnlike_106 : decode cX8_mixUnlike 106 = .ok (.invokestatic 158, 3) := by decide +kernel
theorem dX8_mixUnlike_109 : decode cX8_mixUnlike 109 = .ok (.istore 6, 2) := by decide +kernel
theorem dX8_mixUnlike_111 : decode cX8_mixUnlike 111 = .ok (.iload 6, 2) := by decide +kernel
theorem dX8_mixUnlike_113 : decode cX8_mixUnlike 113 = .ok (.iload_n 2, 1) := by decide +kernel
theorem dX8_mixUnlike_114 : decode cX8_mixUnlike 114 = .ok (.if_icmp .le 8, 3) := by decide +kernel
theorem dX8_mixUnlike_117 : decode cX8_mixUnlike 117 = .ok (.iload 6, 2) := by decide +kernel
theorem dX8_mixUnlike_119 : decode cX8_mixUnlike 119 = .ok (.goto 4, 3) := by decide +kernel
theorem dX8_mixUnlike_122 : decode cX8_mixUnlike 122 = .ok (.iload_n 2, 1) := by decide +kernel
theorem dX8_mixUnlike_123 : decode cX8_mixUnlike 123 = .ok (.istore_n 2, 1) := by decide +kernel
theorem dX8_mixUnlike_124 : decode cX8_mixUnlike 124 = .ok (.iinc 4 1, 3) := by decide +kernel
theorem dX8_mixUnlike_127 : decode cX8_mixUnlike 127 = .ok (.goto (-112), 3) := by decide +kernel
theorem dX8_mixUnlike_130 : decode cX8_mixUnlike 130 = .ok (.iinc 3 1, 3) := by decide +kernel
theorem dX8_mixUnlike_133 : decode cX8_mixUnlike 133 = .ok (.goto (-129), 3) := by decide +kernel
theorem dX8_mixUnlike_136 : decode cX8_mixUnlike 136 = .ok (.iload_n 2, 1) := by decide +kernel
theorem dX8_mixUnlike_137 : decode cX8_mixUnlike 137 = .ok (.ireturn, 1) := by decide +kernel
set_option maxRecDepth 20000 in
theorem ggX8_findBest_X8_areDrops : GoodIn wsX8_findBest wsX8_areDrops := goodIn_r _ [8, 2, 9, 10, 7, 11, 12, 13, 14, 15, 16, 54, 55, 56, 57, 58, 59, 60, 61, 62, 63, 64, 65, 66, 67, 68, 69, 70, 71, 72, 73, 74, 75, 76, 77, 78, 79, 80, 81, 82, 83, 84, 85, 86, 87, 88] (by decide +kernel) (by decide +kernel)
set_option maxRecDepth 20000 in
theorem gX8_findBest_X8_areDrops : GoodIn wsX8_findBest (wsV RX8 171 RX8 yX8_areDrops wsX8_areDrops) := goodIn_app (goodIn_of _ (by decide +kernel)) ggX8_findBest_X8_areDrops
set_option maxRecDepth 20000 in
theorem ggX8_findBest_X8_layMix : GoodIn wsX8_findBest wsX8_layMix := goodIn_r _ [20, 21, 2, 22, 23, 24, 54, 55, 56, 57, 58, 59, 60, 61, 62, 63, 64, 65, 66, 67, 68, 69, 70, 71, 72, 73, 74, 75, 76, 77, 78, 79, 80, 81, 82, 83, 84, 85, 86, 87, 88] (by decide +kernel) (by decide +kernel)
set_option maxRecDepth 20000 in
theorem gX8_findBest_X8_layMix : GoodIn wsX8_findBest (wsV RX8 175 RX8 yX8_layMix wsX8_layMix) := goodIn_app (goodIn_of _ (by decide +kernel)) ggX8_findBest_X8_layMix
set_option maxRecDepth 20000 in
theorem ggX8_findBest_X8_mixUnlike : GoodIn wsX8_findBest wsX8_mixUnlike := goodIn_r _ [28, 29, 21, 24, 30, 31, 32, 33, 7, 34, 35, 36, 37, 38, 39, 40, 41, 42, 43, 44, 45, 46, 47, 48, 49, 50, 22, 23, 51, 52, 53, 54, 55, 56, 57, 58, 59, 60, 61, 62, 63, 64, 65, 66, 67, 68, 69, 70, 71, 72, 73, 74, 75, 76, 77, 78, 79, 80, 81, 82, 83, 84, 85, 86, 87, 88] (by decide +kernel) (by decide +kernel)
set_option maxRecDepth 20000 in
theorem gX8_findBest_X8_mixUnlike : GoodIn wsX8_findBest (wsV RX8 181 RX8 yX8_mixUnlike wsX8_mixUnlike) := goodIn_app (goodIn_of _ (by decide +kernel)) ggX8_findBest_X8_mixUnlike
theorem dX8_findBest_0 : decode cX8_findBest 0 = .ok (.aload_n 0, 1) := by decide +kernel
theorem dX8_findBest_1 : decode cX8_findBest 1 = .ok (.bipush (-9), 2) := by decide +kernel
theorem dX8_findBest_3 : decode cX8_findBest 3 = .ok (.putfield 178, 3) := by decide +kernel
theorem dX8_findBest_6 : decode cX8_findBest 6 = .ok (.iconst 1, 1) := by decide +kernel
theorem dX8_findBest_7 : decode cX8_findBest 7 = .ok (.istore_n 2, 1) := by decide +kernel
theorem dX8_findBest_8 : decode cX8_findBest 8 = .ok (.iload_n 2, 1) := by decide +kernel
theorem dX8_findBest_9 : decode cX8_findBest 9 = .ok (.bipush 6, 2) := by decide +kernel
theorem dX8_findBest_11 : decode cX8_findBest 11 = .ok (.if_icmp .gt 173, 3) := by decide +kernel
theorem dX8_findBest_14 : decode cX8_findBest 14 = .ok (.iconst 0, 1) := by decide +kernel
theorem dX8_findBest_15 : decode cX8_findBest 15 = .ok (.istore_n 3, 1) := by decide +kernel
theorem dX8_findBest_16 : decode cX8_findBest 16 = .ok (.iload_n 3, 1) := by decide +kernel
theorem dX8_findBest_17 : decode cX8_findBest 17 = .ok (.sipush 2401, 3) := by decide +kernel
theorem dX8_findBest_20 : decode cX8_findBest 20 = .ok (.if_icmp .ge 158, 3) := by decide +kernel
theorem dX8_findBest_23 : decode cX8_findBest 23 = .ok (.aload_n 0, 1) := by decide +kernel
theorem dX8_findBest_24 : decode cX8_findBest 24 = .ok (.getfield 47, 3) := by decide +kernel
theorem dX8_findBest_27 : decode cX8_findBest 27 = .ok (.iconst 0, 1) := by decide +kernel
theorem dX8_findBest_28 : decode cX8_findBest 28 = .ok (.iload_n 3, 1) := by decide +kernel
theorem dX8_findBest_29 : decode cX8_findBest 29 = .ok (.sipush 343, 3) := by decide +kernel
theorem dX8_findBest_32 : decode cX8_findBest 32 = .ok (.idiv, 1) := by decide +kernel
theorem dX8_findBest_33 : decode cX8_findBest 33 = .ok (.iastore, 1) := by decide +kernel
theorem dX8_findBest_34 : decode cX8_findBest 34 = .ok (.aload_n 0, 1) := by decide +kernel
theorem dX8_findBest_35 : decode cX8_findBest 35 = .ok (.getfield 47, 3) := by decide +kernel
theorem dX8_findBest_38 : decode cX8_findBest 38 = .ok (.iconst 1, 1) := by decide +kernel
theorem dX8_findBest_39 : decode cX8_findBest 39 = .ok (.iload_n 3, 1) := by decide +kernel
theorem dX8_findBest_40 : decode cX8_findBest 40 = .ok (.bipush 49, 2) := by decide +kernel
theorem dX8_findBest_42 : decode cX8_findBest 42 = .ok (.idiv, 1) := by decide +kernel
theorem dX8_findBest_43 : decode cX8_findBest 43 = .ok (.bipush 7, 2) := by decide +kernel
theorem dX8_findBest_45 : decode cX8_findBest 45 = .ok (.irem, 1) := by decide +kernel
theorem dX8_findBest_46 : decode cX8_findBest 46 = .ok (.iastore, 1) := by decide +kernel
theorem dX8_findBest_47 : decode cX8_findBest 47 = .ok (.aload_n 0, 1) := by decide +kernel
theorem dX8_findBest_48 : decode cX8_findBest 48 = .ok (.getfield 47, 3) := by decide +kernel
theorem dX8_findBest_51 : decode cX8_findBest 51 = .ok (.iconst 2, 1) := by decide +kernel
theorem dX8_findBest_52 : decode cX8_findBest 52 = .ok (.iload_n 3, 1) := by decide +kernel
theorem dX8_findBest_53 : decode cX8_findBest 53 = .ok (.bipush 7, 2) := by decide +kernel
theorem dX8_findBest_55 : decode cX8_findBest 55 = .ok (.idiv, 1) := by decide +kernel
theorem dX8_findBest_56 : decode cX8_findBest 56 = .ok (.bipush 7, 2) := by decide +kernel
theorem dX8_findBest_58 : decode cX8_findBest 58 = .ok (.irem, 1) := by decide +kernel
theorem dX8_findBest_59 : decode cX8_findBest 59 = .ok (.iastore, 1) := by decide +kernel
theorem dX8_findBest_60 : decode cX8_findBest 60 = .ok (.aload_n 0, 1) := by decide +kernel
theorem dX8_findBest_61 : decode cX8_findBest 61 = .ok (.getfield 47, 3) := by decide +kernel
theorem dX8_findBest_64 : decode cX8_findBest 64 = .ok (.iconst 3, 1) := by decide +kernel
theorem dX8_findBest_65 : decode cX8_findBest 65 = .ok (.iload_n 3, 1) := by decide +kernel
theorem dX8_findBest_66 : decode cX8_findBest 66 = .ok (.bipush 7, 2) := by decide +kernel
theorem dX8_findBest_68 : decode cX8_findBest 68 = .ok (.irem, 1) := by decide +kernel
theorem dX8_findBest_69 : decode cX8_findBest 69 = .ok (.iastore, 1) := by decide +kernel
theorem dX8_findBest_70 : decode cX8_findBest 70 = .ok (.aload_n 0, 1) := by decide +kernel
theorem dX8_findBest_71 : decode cX8_findBest 71 = .ok (.getfield 47, 3) := by decide +kernel
theorem dX8_findBest_74 : decode cX8_findBest 74 = .ok (.iconst 0, 1) := by decide +kernel
theorem dX8_findBest_75 : decode cX8_findBest 75 = .ok (.iaload, 1) := by decide +kernel
theorem dX8_findBest_76 : decode cX8_findBest 76 = .ok (.aload_n 0, 1) := by decide +kernel
theorem dX8_findBest_77 : decode cX8_findBest 77 = .ok (.getfield 47, 3) := by decide +kernel
theorem dX8_findBest_80 : decode cX8_findBest 80 = .ok (.iconst 1, 1) := by decide +kernel
theorem dX8_findBest_81 : decode cX8_findBest 81 = .ok (.iaload, 1) := by decide +kernel
theorem dX8_findBest_82 : decode cX8_findBest 82 = .ok (.iadd, 1) := by decide +kernel
theorem dX8_findBest_83 : decode cX8_findBest 83 = .ok (.aload_n 0, 1) := by decide +kernel
theorem dX8_findBest_84 : decode cX8_findBest 84 = .ok (.getfield 47, 3) := by decide +kernel
theorem dX8_findBest_87 : decode cX8_findBest 87 = .ok (.iconst 2, 1) := by decide +kernel
theorem dX8_findBest_88 : decode cX8_findBest 88 = .ok (.iaload, 1) := by decide +kernel
theorem dX8_findBest_89 : decode cX8_findBest 89 = .ok (.iadd, 1) := by decide +kernel
theorem dX8_findBest_90 : decode cX8_findBest 90 = .ok (.aload_n 0, 1) := by decide +kernel
theorem dX8_findBest_91 : decode cX8_findBest 91 = .ok (.getfield 47, 3) := by decide +kernel
theorem dX8_findBest_94 : decode cX8_findBest 94 = .ok (.iconst 3, 1) := by decide +kernel
theorem dX8_findBest_95 : decode cX8_findBest 95 = .ok (.iaload, 1) := by decide +kernel
theorem dX8_findBest_96 : decode cX8_findBest 96 = .ok (.iadd, 1) := by decide +kernel
theorem dX8_findBest_97 : decode cX8_findBest 97 = .ok (.iload_n 2, 1) := by decide +kernel
theorem dX8_findBest_98 : decode cX8_findBest 98 = .ok (.if_icmp .ne 74, 3) := by decide +kernel
theorem dX8_findBest_101 : decode cX8_findBest 101 = .ok (.aload_n 0, 1) := by decide +kernel
theorem dX8_findBest_102 : decode cX8_findBest 102 = .ok (.invokevirtual 171, 3) := by decide +kernel
theorem dX8_findBest_105 : decode cX8_findBest 105 = .ok (.ifCond .eq 67, 3) := by decide +kernel
theorem dX8_findBest_108 : decode cX8_findBest 108 = .ok (.aload_n 0, 1) := by decide +kernel
theorem dX8_findBest_109 : decode cX8_findBest 109 = .ok (.invokevirtual 175, 3) := by decide +kernel
theorem dX8_findBest_112 : decode cX8_findBest 112 = .ok (.aload_n 0, 1) := by decide +kernel
theorem dX8_findBest_113 : decode cX8_findBest 113 = .ok (.iload_n 1, 1) := by decide +kernel
theorem dX8_findBest_114 : decode cX8_findBest 114 = .ok (.invokevirtual 181, 3) := by decide +kernel
theorem dX8_findBest_117 : decode cX8_findBest 117 = .ok (.istore 4, 2) := by decide +kernel
theorem dX8_findBest_119 : decode cX8_findBest 119 = .ok (.aload_n 0, 1) := by decide +kernel
theorem dX8_findBest_120 : decode cX8_findBest 120 = .ok (.getfield 178, 3) := by decide +kernel
theorem dX8_findBest_123 : decode cX8_findBest 123 = .ok (.bipush (-9), 2) := by decide +kernel
theorem dX8_findBest_125 : decode cX8_findBest 125 = .ok (.if_icmp .eq 12, 3) := by decide +kernel
theorem dX8_findBest_128 : decode cX8_findBest 128 = .ok (.iload 4, 2) := by decide +kernel
theorem dX8_findBest_130 : decode cX8_findBest 130 = .ok (.aload_n 0, 1) := by decide +kernel
theorem dX8_findBest_131 : decode cX8_findBest 131 = .ok (.getfield 178, 3) := by decide +kernel
theorem dX8_findBest_134 : decode cX8_findBest 134 = .ok (.if_icmp .ge 38, 3) := by decide +kernel
theorem dX8_findBest_137 : decode cX8_findBest 137 = .ok (.aload_n 0, 1) := by decide +kernel
theorem dX8_findBest_138 : decode cX8_findBest 138 = .ok (.iload 4, 2) := by decide +kernel
theorem dX8_findBest_140 : decode cX8_findBest 140 = .ok (.putfield 178, 3) := by decide +kernel
theorem dX8_findBest_143 : decode cX8_findBest 143 = .ok (.iconst 0, 1) := by decide +kernel
theorem dX8_findBest_144 : decode cX8_findBest 144 = .ok (.istore 5, 2) := by decide +kernel
theorem dX8_findBest_146 : decode cX8_findBest 146 = .ok (.iload 5, 2) := by decide +kernel
theorem dX8_findBest_148 : decode cX8_findBest 148 = .ok (.iconst 4, 1) := by decide +kernel
theorem dX8_findBest_149 : decode cX8_findBest 149 = .ok (.if_icmp .ge 23, 3) := by decide +kernel
theorem dX8_findBest_152 : decode cX8_findBest 152 = .ok (.aload_n 0, 1) := by decide +kernel
theorem dX8_findBest_153 : decode cX8_findBest 153 = .ok (.getfield 53, 3) := by decide +kernel
theorem dX8_findBest_156 : decode cX8_findBest 156 = .ok (.iload 5, 2) := by decide +kernel
theorem dX8_findBest_158 : decode cX8_findBest 158 = .ok (.aload_n 0, 1) := by decide +kernel
theorem dX8_findBest_159 : decode cX8_findBest 159 = .ok (.getfield 47, 3) := by decide +kernel
theorem dX8_findBest_162 : decode cX8_findBest 162 = .ok (.iload 5, 2) := by decide +kernel
theorem dX8_findBest_164 : decode cX8_findBest 164 = .ok (.iaload, 1) := by decide +kernel
theorem dX8_findBest_165 : decode cX8_findBest 165 = .ok (.iastore, 1) := by decide +kernel
theorem dX8_findBest_166 : decode cX8_findBest 166 = .ok (.iinc 5 1, 3) := by decide +kernel
theorem dX8_findBest_169 : decode cX8_findBest 169 = .ok (.goto (-23), 3) := by decide +kernel
theorem dX8_findBest_172 : decode cX8_findBest 172 = .ok (.iinc 3 1, 3) := by decide +kernel
theorem dX8_findBest_175 : decode cX8_findBest 175 = .ok (.goto (-159), 3) := by decide +kernel
theorem dX8_findBest_178 : decode cX8_findBest 178 = .ok (.iinc 2 1, 3) := by decide +kernel
theorem dX8_findBest_181 : decode cX8_findBest 181 = .ok (.goto (-173), 3) := by decide +kernel
theorem dX8_findBest_184 : decode cX8_findBest 184 = .ok (.return_, 1) := by decide +kernel
set_option maxRecDepth 20000 in
theorem ggX8_best_X8_isCell : GoodIn wsX8_best wsX8_isCell := goodIn_r _ [7, 8, 9, 10, 6, 11, 12, 13, 68, 69, 70, 71, 72, 73, 74, 75, 76, 77, 78, 79, 80, 81, 82, 83, 84, 85, 86, 87, 88, 89, 90, 91, 92, 93, 94, 95, 96, 97, 98, 99, 100, 101, 102] (by decide +kernel) (by decide +kernel)
set_option maxRecDepth 20000 in
theorem gX8_best_X8_isCell : GoodIn wsX8_best (wsV RX8 134 RX8 yX8_isCell wsX8_isCell) := goodIn_app (goodIn_of _ (by decide +kernel)) ggX8_best_X8_isCell
set_option maxRecDepth 20000 in
theorem ggX8_best_X8_within : GoodIn wsX8_best wsX8_within := goodIn_r _ [16] (by decide +kernel) (by decide +kernel)
set_option maxRecDepth 20000 in
theorem gX8_best_X8_within : GoodIn wsX8_best (va_wsS RX8 71 yX8_within wsX8_within) := goodIn_app (goodIn_of _ (by decide +kernel)) ggX8_best_X8_within
set_option maxRecDepth 20000 in
theorem ggX8_best_X8_findBest : GoodIn wsX8_best wsX8_findBest := goodIn_r _ [20, 1, 21, 2, 22, 23, 24, 6, 25, 14, 15, 16, 26, 27, 28, 29, 30, 31, 32, 33, 34, 35, 36, 37, 38, 39, 40, 41, 42, 43, 44, 45, 46, 47, 48, 49, 50, 51, 52, 53, 54, 55, 56, 57, 58, 59, 60, 61, 62, 63, 64, 65, 66, 67, 68, 69, 70, 71, 72, 73, 74, 75, 76, 77, 78, 79, 80, 81, 82, 83, 84, 85, 86, 87, 88, 89, 90, 91, 92, 93, 94, 95, 96, 97, 98, 99, 100, 101, 102] (by decide +kernel) (by decide +kernel)
set_option maxRecDepth 20000 in
theorem gX8_best_X8_findBest : GoodIn wsX8_best (wsV RX8 184 RX8 yX8_findBest wsX8_findBest) := goodIn_app (goodIn_of _ (by decide +kernel)) ggX8_best_X8_findBest
theorem dX8_best_0 : decode cX8_best 0 = .ok (.aload_n 0, 1) := by decide +kernel
theorem dX8_best_1 : decode cX8_best 1 = .ok (.iload_n 1, 1) := by decide +kernel
theorem dX8_best_2 : decode cX8_best 2 = .ok (.invokevirtual 134, 3) := by decide +kernel
theorem dX8_best_5 : decode cX8_best 5 = .ok (.ifCond .ne 5, 3) := by decide +kernel
theorem dX8_best_8 : decode cX8_best 8 = .ok (.iconst (-1), 1) := by decide +kernel
theorem dX8_best_9 : decode cX8_best 9 = .ok (.ireturn, 1) := by decide +kernel
theorem dX8_best_10 : decode cX8_best 10 = .ok (.iload_n 2, 1) := by decide +kernel
theorem dX8_best_11 : decode cX8_best 11 = .ok (.iconst (-1), 1) := by decide +kernel
theorem dX8_best_12 : decode cX8_best 12 = .ok (.iconst 3, 1) := by decide +kernel
theorem dX8_best_13 : decode cX8_best 13 = .ok (.invokestatic 71, 3) := by decide +kernel
theorem dX8_best_16 : decode cX8_best 16 = .ok (.ifCond .ne 6, 3) := by decide +kernel
theorem dX8_best_19 : decode cX8_best 19 = .ok (.bipush (-2), 2) := by decide +kernel
theorem dX8_best_21 : decode cX8_best 21 = .ok (.ireturn, 1) := by decide +kernel
theorem dX8_best_22 : decode cX8_best 22 = .ok (.aload_n 0, 1) := by decide +kernel
theorem dX8_best_23 : decode cX8_best 23 = .ok (.iload_n 1, 1) := by decide +kernel
theorem dX8_best_24 : decode cX8_best 24 = .ok (.invokevirtual 184, 3) := by decide +kernel
theorem dX8_best_27 : decode cX8_best 27 = .ok (.iload_n 2, 1) := by decide +kernel
theorem dX8_best_28 : decode cX8_best 28 = .ok (.iconst (-1), 1) := by decide +kernel
theorem dX8_best_29 : decode cX8_best 29 = .ok (.if_icmp .ne 10, 3) := by decide +kernel
theorem dX8_best_32 : decode cX8_best 32 = .ok (.aload_n 0, 1) := by decide +kernel
theorem dX8_best_33 : decode cX8_best 33 = .ok (.getfield 178, 3) := by decide +kernel
theorem dX8_best_36 : decode cX8_best 36 = .ok (.goto 9, 3) := by decide +kernel
theorem dX8_best_39 : decode cX8_best 39 = .ok (.aload_n 0, 1) := by decide +kernel
theorem dX8_best_40 : decode cX8_best 40 = .ok (.getfield 53, 3) := by decide +kernel
theorem dX8_best_43 : decode cX8_best 43 = .ok (.iload_n 2, 1) := by decide +kernel
theorem dX8_best_44 : decode cX8_best 44 = .ok (.iaload, 1) := by decide +kernel
theorem dX8_best_45 : decode cX8_best 45 = .ok (.ireturn, 1) := by decide +kernel
set_option maxRecDepth 20000 in
theorem ggX8_freshUnlike_X8_lookOf : GoodIn wsX8_freshUnlike wsX8_lookOf := goodIn_r _ [5, 6, 7, 8, 9, 4, 10, 11, 12, 13, 14, 15, 16, 17, 21, 22, 23, 24, 25, 26, 27, 28, 29, 30, 31, 32, 33, 34, 35, 36, 37, 38, 39, 40, 41, 42, 43, 44, 45, 46, 47, 48, 49, 50, 51, 52, 53, 54, 55] (by decide +kernel) (by decide +kernel)
set_option maxRecDepth 20000 in
theorem gX8_freshUnlike_X8_lookOf : GoodIn wsX8_freshUnlike (wsV RX8 148 RX8 yX8_lookOf wsX8_lookOf) := goodIn_app (goodIn_of _ (by decide +kernel)) ggX8_freshUnlike_X8_lookOf
set_option maxRecDepth 20000 in
theorem ggX8_freshUnlike_X8_size : GoodIn wsX8_freshUnlike wsX8_size := goodIn_r _ [20] (by decide +kernel) (by decide +kernel)
set_option maxRecDepth 20000 in
theorem gX8_freshUnlike_X8_size : GoodIn wsX8_freshUnlike (va_wsS RX8 158 yX8_size wsX8_size) := goodIn_app (goodIn_of _ (by decide +kernel)) ggX8_freshUnlike_X8_size
theorem dX8_freshUnlike_0 : decode cX8_freshUnlike 0 = .ok (.aload_n 0, 1) := by decide +kernel
theorem dX8_freshUnlike_1 : decode cX8_freshUnlike 1 = .ok (.iload_n 1, 1) := by decide +kernel
theorem dX8_freshUnlike_2 : decode cX8_freshUnlike 2 = .ok (.iconst 0, 1) := by decide +kernel
theorem dX8_freshUnlike_3 : decode cX8_freshUnlike 3 = .ok (.iconst 0, 1) := by decide +kernel
theorem dX8_freshUnlike_4 : decode cX8_freshUnlike 4 = .ok (.iload_n 3, 1) := by decide +kernel
theorem dX8_freshUnlike_5 : decode cX8_freshUnlike 5 = .ok (.iconst 0, 1) := by decide +kernel
theorem dX8_freshUnlike_6 : decode cX8_freshUnlike 6 = .ok (.invokevirtual 148, 3) := by decide +kernel
theorem dX8_freshUnlike_9 : decode cX8_freshUnlike 9 = .ok (.aload_n 0, 1) := by decide +kernel
theorem dX8_freshUnlike_10 : decode cX8_freshUnlike 10 = .ok (.iload_n 2, 1) := by decide +kernel
theorem dX8_freshUnlike_11 : decode cX8_freshUnlike 11 = .ok (.iconst 0, 1) := by decide +kernel
theorem dX8_freshUnlike_12 : decode cX8_freshUnlike 12 = .ok (.iconst 0, 1) := by decide +kernel
theorem dX8_freshUnlike_13 : decode cX8_freshUnlike 13 = .ok (.iload_n 3, 1) := by decide +kernel
theorem dX8_freshUnlike_14 : decode cX8_freshUnlike 14 = .ok (.iconst 0, 1) := by decide +kernel
theorem dX8_freshUnlike_15 : decode cX8_freshUnlike 15 = .ok (.invokevirtual 148, 3) := by decide +kernel
theorem dX8_freshUnlike_18 : decode cX8_freshUnlike 18 = .ok (.isub, 1) := by decide +kernel
theorem dX8_freshUnlike_19 : decode cX8_freshUnlike 19 = .ok (.invokestatic 158, 3) := by decide +kernel
theorem dX8_freshUnlike_22 : decode cX8_freshUnlike 22 = .ok (.ireturn, 1) := by decide +kernel
set_option maxRecDepth 20000 in
theorem ggX8_traitors_X8_isLight : GoodIn wsX8_traitors wsX8_isLight := goodIn_r _ [7, 8, 32, 33, 34, 35, 36, 37, 38, 39, 40, 41, 42, 43, 44, 45, 46, 47, 48, 49, 50, 51, 52, 53, 54, 55, 56, 57, 58, 59, 60, 61, 62, 63, 64, 65, 66] (by decide +kernel) (by decide +kernel)
set_option maxRecDepth 20000 in
theorem gX8_traitors_X8_isLight : GoodIn wsX8_traitors (wsV RX8 151 RX8 yX8_isLight wsX8_isLight) := goodIn_app (goodIn_of _ (by decide +kernel)) ggX8_traitors_X8_isLight
set_option maxRecDepth 20000 in
theorem ggX8_traitors_X8_freshUnlike : GoodIn wsX8_traitors wsX8_freshUnlike := goodIn_r _ [12, 13, 14, 15, 6, 16, 17, 18, 19, 20, 21, 22, 23, 24, 25, 26, 27, 28, 29, 30, 31, 32, 33, 34, 35, 36, 37, 38, 39, 40, 41, 42, 43, 44, 45, 46, 47, 48, 49, 50, 51, 52, 53, 54, 55, 56, 57, 58, 59, 60, 61, 62, 63, 64, 65, 66] (by decide +kernel) (by decide +kernel)
set_option maxRecDepth 20000 in
theorem gX8_traitors_X8_freshUnlike : GoodIn wsX8_traitors (wsV RX8 188 RX8 yX8_freshUnlike wsX8_freshUnlike) := goodIn_app (goodIn_of _ (by decide +kernel)) ggX8_traitors_X8_freshUnlike
theorem dX8_traitors_0 : decode cX8_traitors 0 = .ok (.aload_n 0, 1) := by decide +kernel
theorem dX8_traitors_1 : decode cX8_traitors 1 = .ok (.iload_n 1, 1) := by decide +kernel
theorem dX8_traitors_2 : decode cX8_traitors 2 = .ok (.invokevirtual 151, 3) := by decide +kernel
theorem dX8_traitors_5 : decode cX8_traitors 5 = .ok (.ifCond .eq 16, 3) := by decide +kernel
theorem dX8_traitors_8 : decode cX8_traitors 8 = .ok (.aload_n 0, 1) := by decide +kernel
theorem dX8_traitors_9 : decode cX8_traitors 9 = .ok (.iload_n 2, 1) := by decide +kernel
theorem dX8_traitors_10 : decode cX8_traitors 10 = .ok (.invokevirtual 151, 3) := by decide +kernel
theorem dX8_traitors_13 : decode cX8_traitors 13 = .ok (.ifCond .eq 8, 3) := by decide +kernel
theorem dX8_traitors_16 : decode cX8_traitors 16 = .ok (.iload_n 3, 1) := by decide +kernel
theorem dX8_traitors_17 : decode cX8_traitors 17 = .ok (.iconst (-1), 1) := by decide +kernel
theorem dX8_traitors_18 : decode cX8_traitors 18 = .ok (.if_icmp .ge 5, 3) := by decide +kernel
theorem dX8_traitors_21 : decode cX8_traitors 21 = .ok (.iconst (-1), 1) := by decide +kernel
theorem dX8_traitors_22 : decode cX8_traitors 22 = .ok (.ireturn, 1) := by decide +kernel
theorem dX8_traitors_23 : decode cX8_traitors 23 = .ok (.iconst 0, 1) := by decide +kernel
theorem dX8_traitors_24 : decode cX8_traitors 24 = .ok (.istore 4, 2) := by decide +kernel
theorem dX8_traitors_26 : decode cX8_traitors 26 = .ok (.iconst 0, 1) := by decide +kernel
theorem dX8_traitors_27 : decode cX8_traitors 27 = .ok (.istore 5, 2) := by decide +kernel
theorem dX8_traitors_29 : decode cX8_traitors 29 = .ok (.iload 5, 2) := by decide +kernel
theorem dX8_traitors_31 : decode cX8_traitors 31 = .ok (.aload_n 0, 1) := by decide +kernel
theorem dX8_traitors_32 : decode cX8_traitors 32 = .ok (.getfield 124, 3) := by decide +kernel
theorem dX8_traitors_35 : decode cX8_traitors 35 = .ok (.if_icmp .ge 80, 3) := by decide +kernel
theorem dX8_traitors_38 : decode cX8_traitors 38 = .ok (.iload 5, 2) := by decide +kernel
theorem dX8_traitors_40 : decode cX8_traitors 40 = .ok (.iconst 1, 1) := by decide +kernel
theorem dX8_traitors_41 : decode cX8_traitors 41 = .ok (.iadd, 1) := by decide +kernel
theorem dX8_traitors_42 : decode cX8_traitors 42 = .ok (.istore 6, 2) := by decide +kernel
theorem dX8_traitors_44 : decode cX8_traitors 44 = .ok (.iload 6, 2) := by decide +kernel
theorem dX8_traitors_46 : decode cX8_traitors 46 = .ok (.aload_n 0, 1) := by decide +kernel
theorem dX8_traitors_47 : decode cX8_traitors 47 = .ok (.getfield 124, 3) := by decide +kernel
theorem dX8_traitors_50 : decode cX8_traitors 50 = .ok (.if_icmp .ge 59, 3) := by decide +kernel
theorem dX8_traitors_53 : decode cX8_traitors 53 = .ok (.aload_n 0, 1) := by decide +kernel
theorem dX8_traitors_54 : decode cX8_traitors 54 = .ok (.iload 5, 2) := by decide +kernel
theorem dX8_traitors_56 : decode cX8_traitors 56 = .ok (.iload 6, 2) := by decide +kernel
theorem dX8_traitors_58 : decode cX8_traitors 58 = .ok (.iload_n 1, 1) := by decide +kernel
theorem dX8_traitors_59 : decode cX8_traitors 59 = .ok (.invokevirtual 188, 3) := by decide +kernel
theorem dX8_traitors_62 : decode cX8_traitors 62 = .ok (.aload_n 0, 1) := by decide +kernel
theorem dX8_traitors_63 : decode cX8_traitors 63 = .ok (.getfield 118, 3) := by decide +kernel
theorem dX8_traitors_66 : decode cX8_traitors 66 = .ok (.if_icmp .ge 37, 3) := by decide +kernel
theorem dX8_traitors_69 : decode cX8_traitors 69 = .ok (.aload_n 0, 1) := by decide +kernel
theorem dX8_traitors_70 : decode cX8_traitors 70 = .ok (.iload 5, 2) := by decide +kernel
theorem dX8_traitors_72 : decode cX8_traitors 72 = .ok (.iload 6, 2) := by decide +kernel
theorem dX8_traitors_74 : decode cX8_traitors 74 = .ok (.iload_n 2, 1) := by decide +kernel
theorem dX8_traitors_75 : decode cX8_traitors 75 = .ok (.invokevirtual 188, 3) := by decide +kernel
theorem dX8_traitors_78 : decode cX8_traitors 78 = .ok (.aload_n 0, 1) := by decide +kernel
theorem dX8_traitors_79 : decode cX8_traitors 79 = .ok (.getfield 118, 3) := by decide +kernel
theorem dX8_traitors_82 : decode cX8_traitors 82 = .ok (.if_icmp .lt 21, 3) := by decide +kernel
theorem dX8_traitors_85 : decode cX8_traitors 85 = .ok (.iload 4, 2) := by decide +kernel
theorem dX8_traitors_87 : decode cX8_traitors 87 = .ok (.iload_n 3, 1) := by decide +kernel
theorem dX8_traitors_88 : decode cX8_traitors 88 = .ok (.if_icmp .ne 12, 3) := by decide +kernel
theorem dX8_traitors_91 : decode cX8_traitors 91 = .ok (.bipush 10, 2) := by decide +kernel
theorem dX8_traitors_93 : decode cX8_traitors 93 = .ok (.iload 5, 2) := by decide +kernel
theorem dX8_traitors_95 : decode cX8_traitors 95 = .ok (.imul, 1) := by decide +kernel
theorem dX8_traitors_96 : decode cX8_traitors 96 = .ok (.iload 6, 2) := by decide +kernel
theorem dX8_traitors_98 : decode cX8_traitors 98 = .ok (.iadd, 1) := by decide +kernel
theorem dX8_traitors_99 : decode cX8_traitors 99 = .ok (.ireturn, 1) := by decide +kernel
theorem dX8_traitors_100 : decode cX8_traitors 100 = .ok (.iinc 4 1, 3) := by decide +kernel
theorem dX8_traitors_103 : decode cX8_traitors 103 = .ok (.iinc 6 1, 3) := by decide +kernel
theorem dX8_traitors_106 : decode cX8_traitors 106 = .ok (.goto (-62), 3) := by decide +kernel
theorem dX8_traitors_109 : decode cX8_traitors 109 = .ok (.iinc 5 1, 3) := by decide +kernel
theorem dX8_traitors_112 : decode cX8_traitors 112 = .ok (.goto (-83), 3) := by decide +kernel
theorem dX8_traitors_115 : decode cX8_traitors 115 = .ok (.iload_n 3, 1) := by decide +kernel
theorem dX8_traitors_116 : decode cX8_traitors 116 = .ok (.iconst (-1), 1) := by decide +kernel
theorem dX8_traitors_117 : decode cX8_traitors 117 = .ok (.if_icmp .ne 8, 3) := by decide +kernel
theorem dX8_traitors_120 : decode cX8_traitors 120 = .ok (.iload 4, 2) := by decide +kernel
theorem dX8_traitors_122 : decode cX8_traitors 122 = .ok (.goto 5, 3) := by decide +kernel
theorem dX8_traitors_125 : decode cX8_traitors 125 = .ok (.bipush (-9), 2) := by decide +kernel
theorem dX8_traitors_127 : decode cX8_traitors 127 = .ok (.ireturn, 1) := by decide +kernel
set_option maxRecDepth 20000 in
theorem ggX8_keepAll_X8_all : GoodIn wsX8_keepAll wsX8_all := goodIn_r _ [11, 12, 13, 14, 15, 16, 17, 18, 19, 20, 21, 22, 23, 24, 25, 26, 27, 28, 29, 30, 31, 32, 33, 34, 35, 36, 37, 38, 39, 40, 41, 42, 43, 44, 45, 46, 47, 48] (by decide +kernel) (by decide +kernel)
set_option maxRecDepth 20000 in
theorem gX8_keepAll_X8_all : GoodIn wsX8_keepAll (wsV RX8 81 RX8 yX8_all wsX8_all) := goodIn_app (goodIn_of _ (by decide +kernel)) ggX8_keepAll_X8_all
theorem dX8_keepAll_0 : decode cX8_keepAll 0 = .ok (.iconst 0, 1) := by decide +kernel
theorem dX8_keepAll_1 : decode cX8_keepAll 1 = .ok (.istore_n 1, 1) := by decide +kernel
theorem dX8_keepAll_2 : decode cX8_keepAll 2 = .ok (.iload_n 1, 1) := by decide +kernel
theorem dX8_keepAll_3 : decode cX8_keepAll 3 = .ok (.aload_n 0, 1) := by decide +kernel
theorem dX8_keepAll_4 : decode cX8_keepAll 4 = .ok (.invokevirtual 81, 3) := by decide +kernel
theorem dX8_keepAll_7 : decode cX8_keepAll 7 = .ok (.if_icmp .ge 45, 3) := by decide +kernel
theorem dX8_keepAll_10 : decode cX8_keepAll 10 = .ok (.aload_n 0, 1) := by decide +kernel
theorem dX8_keepAll_11 : decode cX8_keepAll 11 = .ok (.getfield 56, 3) := by decide +kernel
theorem dX8_keepAll_14 : decode cX8_keepAll 14 = .ok (.iload_n 1, 1) := by decide +kernel
theorem dX8_keepAll_15 : decode cX8_keepAll 15 = .ok (.aload_n 0, 1) := by decide +kernel
theorem dX8_keepAll_16 : decode cX8_keepAll 16 = .ok (.getfield 22, 3) := by decide +kernel
theorem dX8_keepAll_19 : decode cX8_keepAll 19 = .ok (.iload_n 1, 1) := by decide +kernel
theorem dX8_keepAll_20 : decode cX8_keepAll 20 = .ok (.iaload, 1) := by decide +kernel
theorem dX8_keepAll_21 : decode cX8_keepAll 21 = .ok (.iastore, 1) := by decide +kernel
theorem dX8_keepAll_22 : decode cX8_keepAll 22 = .ok (.aload_n 0, 1) := by decide +kernel
theorem dX8_keepAll_23 : decode cX8_keepAll 23 = .ok (.getfield 59, 3) := by decide +kernel
theorem dX8_keepAll_26 : decode cX8_keepAll 26 = .ok (.iload_n 1, 1) := by decide +kernel
theorem dX8_keepAll_27 : decode cX8_keepAll 27 = .ok (.aload_n 0, 1) := by decide +kernel
theorem dX8_keepAll_28 : decode cX8_keepAll 28 = .ok (.getfield 25, 3) := by decide +kernel
theorem dX8_keepAll_31 : decode cX8_keepAll 31 = .ok (.iload_n 1, 1) := by decide +kernel
theorem dX8_keepAll_32 : decode cX8_keepAll 32 = .ok (.iaload, 1) := by decide +kernel
theorem dX8_keepAll_33 : decode cX8_keepAll 33 = .ok (.iastore, 1) := by decide +kernel
theorem dX8_keepAll_34 : decode cX8_keepAll 34 = .ok (.aload_n 0, 1) := by decide +kernel
theorem dX8_keepAll_35 : decode cX8_keepAll 35 = .ok (.getfield 62, 3) := by decide +kernel
theorem dX8_keepAll_38 : decode cX8_keepAll 38 = .ok (.iload_n 1, 1) := by decide +kernel
theorem dX8_keepAll_39 : decode cX8_keepAll 39 = .ok (.aload_n 0, 1) := by decide +kernel
theorem dX8_keepAll_40 : decode cX8_keepAll 40 = .ok (.getfield 28, 3) := by decide +kernel
theorem dX8_keepAll_43 : decode cX8_keepAll 43 = .ok (.iload_n 1, 1) := by decide +kernel
theorem dX8_keepAll_44 : decode cX8_keepAll 44 = .ok (.iaload, 1) := by decide +kernel
theorem dX8_keepAll_45 : decode cX8_keepAll 45 = .ok (.iastore, 1) := by decide +kernel
theorem dX8_keepAll_46 : decode cX8_keepAll 46 = .ok (.iinc 1 1, 3) := by decide +kernel
theorem dX8_keepAll_49 : decode cX8_keepAll 49 = .ok (.goto (-47), 3) := by decide +kernel
theorem dX8_keepAll_52 : decode cX8_keepAll 52 = .ok (.return_, 1) := by decide +kernel
set_option maxRecDepth 20000 in
theorem ggX8_takeAll_X8_all : GoodIn wsX8_takeAll wsX8_all := goodIn_r _ [11, 12, 13, 14, 15, 16, 17, 18, 19, 20, 21, 22, 23, 24, 25, 26, 27, 28, 29, 30, 31, 32, 33, 34, 35, 36, 37, 38, 39, 40, 41, 42, 43, 44, 45, 46, 47, 48] (by decide +kernel) (by decide +kernel)
set_option maxRecDepth 20000 in
theorem gX8_takeAll_X8_all : GoodIn wsX8_takeAll (wsV RX8 81 RX8 yX8_all wsX8_all) := goodIn_app (goodIn_of _ (by decide +kernel)) ggX8_takeAll_X8_all
theorem dX8_takeAll_0 : decode cX8_takeAll 0 = .ok (.iconst 0, 1) := by decide +kernel
theorem dX8_takeAll_1 : decode cX8_takeAll 1 = .ok (.istore_n 1, 1) := by decide +kernel
theorem dX8_takeAll_2 : decode cX8_takeAll 2 = .ok (.iload_n 1, 1) := by decide +kernel
theorem dX8_takeAll_3 : decode cX8_takeAll 3 = .ok (.aload_n 0, 1) := by decide +kernel
theorem dX8_takeAll_4 : decode cX8_takeAll 4 = .ok (.invokevirtual 81, 3) := by decide +kernel
theorem dX8_takeAll_7 : decode cX8_takeAll 7 = .ok (.if_icmp .ge 45, 3) := by decide +kernel
theorem dX8_takeAll_10 : decode cX8_takeAll 10 = .ok (.aload_n 0, 1) := by decide +kernel
theorem dX8_takeAll_11 : decode cX8_takeAll 11 = .ok (.getfield 22, 3) := by decide +kernel
theorem dX8_takeAll_14 : decode cX8_takeAll 14 = .ok (.iload_n 1, 1) := by decide +kernel
theorem dX8_takeAll_15 : decode cX8_takeAll 15 = .ok (.aload_n 0, 1) := by decide +kernel
theorem dX8_takeAll_16 : decode cX8_takeAll 16 = .ok (.getfield 56, 3) := by decide +kernel
theorem dX8_takeAll_19 : decode cX8_takeAll 19 = .ok (.iload_n 1, 1) := by decide +kernel
theorem dX8_takeAll_20 : decode cX8_takeAll 20 = .ok (.iaload, 1) := by decide +kernel
theorem dX8_takeAll_21 : decode cX8_takeAll 21 = .ok (.iastore, 1) := by decide +kernel
theorem dX8_takeAll_22 : decode cX8_takeAll 22 = .ok (.aload_n 0, 1) := by decide +kernel
theorem dX8_takeAll_23 : decode cX8_takeAll 23 = .ok (.getfield 25, 3) := by decide +kernel
theorem dX8_takeAll_26 : decode cX8_takeAll 26 = .ok (.iload_n 1, 1) := by decide +kernel
theorem dX8_takeAll_27 : decode cX8_takeAll 27 = .ok (.aload_n 0, 1) := by decide +kernel
theorem dX8_takeAll_28 : decode cX8_takeAll 28 = .ok (.getfield 59, 3) := by decide +kernel
theorem dX8_takeAll_31 : decode cX8_takeAll 31 = .ok (.iload_n 1, 1) := by decide +kernel
theorem dX8_takeAll_32 : decode cX8_takeAll 32 = .ok (.iaload, 1) := by decide +kernel
theorem dX8_takeAll_33 : decode cX8_takeAll 33 = .ok (.iastore, 1) := by decide +kernel
theorem dX8_takeAll_34 : decode cX8_takeAll 34 = .ok (.aload_n 0, 1) := by decide +kernel
theorem dX8_takeAll_35 : decode cX8_takeAll 35 = .ok (.getfield 28, 3) := by decide +kernel
theorem dX8_takeAll_38 : decode cX8_takeAll 38 = .ok (.iload_n 1, 1) := by decide +kernel
theorem dX8_takeAll_39 : decode cX8_takeAll 39 = .ok (.aload_n 0, 1) := by decide +kernel
theorem dX8_takeAll_40 : decode cX8_takeAll 40 = .ok (.getfield 62, 3) := by decide +kernel
theorem dX8_takeAll_43 : decode cX8_takeAll 43 = .ok (.iload_n 1, 1) := by decide +kernel
theorem dX8_takeAll_44 : decode cX8_takeAll 44 = .ok (.iaload, 1) := by decide +kernel
theorem dX8_takeAll_45 : decode cX8_takeAll 45 = .ok (.iastore, 1) := by decide +kernel
theorem dX8_takeAll_46 : decode cX8_takeAll 46 = .ok (.iinc 1 1, 3) := by decide +kernel
theorem dX8_takeAll_49 : decode cX8_takeAll 49 = .ok (.goto (-47), 3) := by decide +kernel
theorem dX8_takeAll_52 : decode cX8_takeAll 52 = .ok (.return_, 1) := by decide +kernel
set_option maxRecDepth 20000 in
theorem ggX8_seenWith_X8_keepAll : GoodIn wsX8_seenWith wsX8_keepAll := goodIn_r _ [6, 7, 8, 9, 10, 11, 12, 13, 14, 15, 5, 16, 17, 1, 68, 69, 70, 71, 72, 73, 74, 75, 76, 77, 78, 79, 80, 81, 82, 83, 84, 85, 86, 87, 88, 89, 90, 91, 92, 93, 94, 95, 96, 97, 98, 99, 100, 101, 102] (by decide +kernel) (by decide +kernel)
set_option maxRecDepth 20000 in
theorem gX8_seenWith_X8_keepAll : GoodIn wsX8_seenWith (wsV RX8 191 RX8 yX8_keepAll wsX8_keepAll) := goodIn_app (goodIn_of _ (by decide +kernel)) ggX8_seenWith_X8_keepAll
set_option maxRecDepth 20000 in
theorem ggX8_seenWith_X8_paint : GoodIn wsX8_seenWith wsX8_paint := goodIn_r _ [21, 8, 10, 12, 22, 23, 24, 5, 25, 13, 14, 15, 16, 17, 1, 26, 27, 28, 29, 30, 68, 69, 70, 71, 72, 73, 74, 75, 76, 77, 78, 79, 80, 81, 82, 83, 84, 85, 86, 87, 88, 89, 90, 91, 92, 93, 94, 95, 96, 97, 98, 99, 100, 101, 102] (by decide +kernel) (by decide +kernel)
set_option maxRecDepth 20000 in
theorem gX8_seenWith_X8_paint : GoodIn wsX8_seenWith (wsV RX8 194 RX8 yX8_paint wsX8_paint) := goodIn_app (goodIn_of _ (by decide +kernel)) ggX8_seenWith_X8_paint
set_option maxRecDepth 20000 in
theorem ggX8_seenWith_X8_seenOf : GoodIn wsX8_seenWith wsX8_seenOf := goodIn_r _ [34, 1, 17, 13, 14, 15, 5, 16, 35, 36, 37, 38, 39, 40, 41, 42, 43, 44, 8, 10, 12, 45, 46, 47, 48, 49, 50, 51, 52, 53, 54, 55, 56, 57, 58, 59, 60, 61, 62, 63, 68, 69, 70, 71, 72, 73, 74, 75, 76, 77, 78, 79, 80, 81, 82, 83, 84, 85, 86, 87, 88, 89, 90, 91, 92, 93, 94, 95, 96, 97, 98, 99, 100, 101, 102] (by decide +kernel) (by decide +kernel)
set_option maxRecDepth 20000 in
theorem gX8_seenWith_X8_seenOf : GoodIn wsX8_seenWith (wsV RX8 165 RX8 yX8_seenOf wsX8_seenOf) := goodIn_app (goodIn_of _ (by decide +kernel)) ggX8_seenWith_X8_seenOf
set_option maxRecDepth 20000 in
theorem ggX8_seenWith_X8_takeAll : GoodIn wsX8_seenWith wsX8_takeAll := goodIn_r _ [67, 8, 7, 10, 9, 12, 11, 13, 14, 15, 5, 16, 17, 1, 68, 69, 70, 71, 72, 73, 74, 75, 76, 77, 78, 79, 80, 81, 82, 83, 84, 85, 86, 87, 88, 89, 90, 91, 92, 93, 94, 95, 96, 97, 98, 99, 100, 101, 102] (by decide +kernel) (by decide +kernel)
set_option maxRecDepth 20000 in
theorem gX8_seenWith_X8_takeAll : GoodIn wsX8_seenWith (wsV RX8 198 RX8 yX8_takeAll wsX8_takeAll) := goodIn_app (goodIn_of _ (by decide +kernel)) ggX8_seenWith_X8_takeAll
theorem dX8_seenWith_0 : decode cX8_seenWith 0 = .ok (.aload_n 0, 1) := by decide +kernel
theorem dX8_seenWith_1 : decode cX8_seenWith 1 = .ok (.invokevirtual 191, 3) := by decide +kernel
theorem dX8_seenWith_4 : decode cX8_seenWith 4 = .ok (.iload_n 1, 1) := by decide +kernel
theorem dX8_seenWith_5 : decode cX8_seenWith 5 = .ok (.aload_n 0, 1) := by decide +kernel
theorem dX8_seenWith_6 : decode cX8_seenWith 6 = .ok (.getfield 78, 3) := by decide +kernel
theorem dX8_seenWith_9 : decode cX8_seenWith 9 = .ok (.idiv, 1) := by decide +kernel
theorem dX8_seenWith_10 : decode cX8_seenWith 10 = .ok (.istore 4, 2) := by decide +kernel
theorem dX8_seenWith_12 : decode cX8_seenWith 12 = .ok (.iload 4, 2) := by decide +kernel
theorem dX8_seenWith_14 : decode cX8_seenWith 14 = .ok (.iload_n 2, 1) := by decide +kernel
theorem dX8_seenWith_15 : decode cX8_seenWith 15 = .ok (.aload_n 0, 1) := by decide +kernel
theorem dX8_seenWith_16 : decode cX8_seenWith 16 = .ok (.getfield 78, 3) := by decide +kernel
theorem dX8_seenWith_19 : decode cX8_seenWith 19 = .ok (.idiv, 1) := by decide +kernel
theorem dX8_seenWith_20 : decode cX8_seenWith 20 = .ok (.if_icmp .gt 51, 3) := by decide +kernel
theorem dX8_seenWith_23 : decode cX8_seenWith 23 = .ok (.iload_n 1, 1) := by decide +kernel
theorem dX8_seenWith_24 : decode cX8_seenWith 24 = .ok (.aload_n 0, 1) := by decide +kernel
theorem dX8_seenWith_25 : decode cX8_seenWith 25 = .ok (.getfield 78, 3) := by decide +kernel
theorem dX8_seenWith_28 : decode cX8_seenWith 28 = .ok (.irem, 1) := by decide +kernel
theorem dX8_seenWith_29 : decode cX8_seenWith 29 = .ok (.istore 5, 2) := by decide +kernel
theorem dX8_seenWith_31 : decode cX8_seenWith 31 = .ok (.iload 5, 2) := by decide +kernel
theorem dX8_seenWith_33 : decode cX8_seenWith 33 = .ok (.iload_n 2, 1) := by decide +kernel
theorem dX8_seenWith_34 : decode cX8_seenWith 34 = .ok (.aload_n 0, 1) := by decide +kernel
theorem dX8_seenWith_35 : decode cX8_seenWith 35 = .ok (.getfield 78, 3) := by decide +kernel
theorem dX8_seenWith_38 : decode cX8_seenWith 38 = .ok (.irem, 1) := by decide +kernel
theorem dX8_seenWith_39 : decode cX8_seenWith 39 = .ok (.if_icmp .gt 26, 3) := by decide +kernel
theorem dX8_seenWith_42 : decode cX8_seenWith 42 = .ok (.aload_n 0, 1) := by decide +kernel
theorem dX8_seenWith_43 : decode cX8_seenWith 43 = .ok (.aload_n 0, 1) := by decide +kernel
theorem dX8_seenWith_44 : decode cX8_seenWith 44 = .ok (.getfield 78, 3) := by decide +kernel
theorem dX8_seenWith_47 : decode cX8_seenWith 47 = .ok (.iload 4, 2) := by decide +kernel
theorem dX8_seenWith_49 : decode cX8_seenWith 49 = .ok (.imul, 1) := by decide +kernel
theorem dX8_seenWith_50 : decode cX8_seenWith 50 = .ok (.iload 5, 2) := by decide +kernel
theorem dX8_seenWith_52 : decode cX8_seenWith 52 = .ok (.iadd, 1) := by decide +kernel
theorem dX8_seenWith_53 : decode cX8_seenWith 53 = .ok (.iload_n 3, 1) := by decide +kernel
theorem dX8_seenWith_54 : decode cX8_seenWith 54 = .ok (.invokevirtual 194, 3) := by decide +kernel
theorem dX8_seenWith_57 : decode cX8_seenWith 57 = .ok (.istore 6, 2) := by decide +kernel
theorem dX8_seenWith_59 : decode cX8_seenWith 59 = .ok (.iinc 5 1, 3) := by decide +kernel
theorem dX8_seenWith_62 : decode cX8_seenWith 62 = .ok (.goto (-31), 3) := by decide +kernel
theorem dX8_seenWith_65 : decode cX8_seenWith 65 = .ok (.iinc 4 1, 3) := by decide +kernel
theorem dX8_seenWith_68 : decode cX8_seenWith 68 = .ok (.goto (-56), 3) := by decide +kernel
theorem dX8_seenWith_71 : decode cX8_seenWith 71 = .ok (.aload_n 0, 1) := by decide +kernel
theorem dX8_seenWith_72 : decode cX8_seenWith 72 = .ok (.bipush (-9), 2) := by decide +kernel
theorem dX8_seenWith_74 : decode cX8_seenWith 74 = .ok (.invokevirtual 165, 3) := by decide +kernel
theorem dX8_seenWith_77 : decode cX8_seenWith 77 = .ok (.istore 4, 2) := by decide +kernel
theorem dX8_seenWith_79 : decode cX8_seenWith 79 = .ok (.aload_n 0, 1) := by decide +kernel
theorem dX8_seenWith_80 : decode cX8_seenWith 80 = .ok (.invokevirtual 198, 3) := by decide +kernel
theorem dX8_seenWith_83 : decode cX8_seenWith 83 = .ok (.iload 4, 2) := by decide +kernel
theorem dX8_seenWith_85 : decode cX8_seenWith 85 = .ok (.ireturn, 1) := by decide +kernel
set_option maxRecDepth 20000 in
theorem ggX8_offer_X8_seenWith : GoodIn wsX8_offer wsX8_seenWith := goodIn_r _ [9, 1, 10, 11, 12, 8, 13, 14, 15, 16, 17, 18, 19, 20, 21, 22, 23, 24, 25, 26, 27, 28, 29, 30, 31, 32, 33, 34, 35, 36, 37, 38, 39, 40, 41, 42, 43, 44, 45, 46, 47, 48, 49, 50, 51, 52, 53, 54, 55, 56, 57, 58, 59, 60, 61, 62, 63, 64, 65, 66, 67, 68, 69, 70, 71, 72, 73, 74, 75, 76, 77, 78, 79, 80, 81, 82, 83, 84, 85, 86, 87, 88, 89, 90, 91, 92, 93, 94, 95, 96, 97, 98, 99, 100, 101, 102, 103, 104, 105, 106, 107, 108, 109] (by decide +kernel) (by decide +kernel)
set_option maxRecDepth 20000 in
theorem gX8_offer_X8_seenWith : GoodIn wsX8_offer (wsV RX8 204 RX8 yX8_seenWith wsX8_seenWith) := goodIn_app (goodIn_of _ (by decide +kernel)) ggX8_offer_X8_seenWith
theorem dX8_offer_0 : decode cX8_offer 0 = .ok (.iload_n 2, 1) := by decide +kernel
theorem dX8_offer_1 : decode cX8_offer 1 = .ok (.aload_n 0, 1) := by decide +kernel
theorem dX8_offer_2 : decode cX8_offer 2 = .ok (.getfield 78, 3) := by decide +kernel
theorem dX8_offer_5 : decode cX8_offer 5 = .ok (.idiv, 1) := by decide +kernel
theorem dX8_offer_6 : decode cX8_offer 6 = .ok (.iload_n 1, 1) := by decide +kernel
theorem dX8_offer_7 : decode cX8_offer 7 = .ok (.aload_n 0, 1) := by decide +kernel
theorem dX8_offer_8 : decode cX8_offer 8 = .ok (.getfield 78, 3) := by decide +kernel
theorem dX8_offer_11 : decode cX8_offer 11 = .ok (.idiv, 1) := by decide +kernel
theorem dX8_offer_12 : decode cX8_offer 12 = .ok (.isub, 1) := by decide +kernel
theorem dX8_offer_13 : decode cX8_offer 13 = .ok (.iconst 1, 1) := by decide +kernel
theorem dX8_offer_14 : decode cX8_offer 14 = .ok (.iadd, 1) := by decide +kernel
theorem dX8_offer_15 : decode cX8_offer 15 = .ok (.iload_n 2, 1) := by decide +kernel
theorem dX8_offer_16 : decode cX8_offer 16 = .ok (.aload_n 0, 1) := by decide +kernel
theorem dX8_offer_17 : decode cX8_offer 17 = .ok (.getfield 78, 3) := by decide +kernel
theorem dX8_offer_20 : decode cX8_offer 20 = .ok (.irem, 1) := by decide +kernel
theorem dX8_offer_21 : decode cX8_offer 21 = .ok (.iload_n 1, 1) := by decide +kernel
theorem dX8_offer_22 : decode cX8_offer 22 = .ok (.aload_n 0, 1) := by decide +kernel
theorem dX8_offer_23 : decode cX8_offer 23 = .ok (.getfield 78, 3) := by decide +kernel
theorem dX8_offer_26 : decode cX8_offer 26 = .ok (.irem, 1) := by decide +kernel
theorem dX8_offer_27 : decode cX8_offer 27 = .ok (.isub, 1) := by decide +kernel
theorem dX8_offer_28 : decode cX8_offer 28 = .ok (.iconst 1, 1) := by decide +kernel
theorem dX8_offer_29 : decode cX8_offer 29 = .ok (.iadd, 1) := by decide +kernel
theorem dX8_offer_30 : decode cX8_offer 30 = .ok (.imul, 1) := by decide +kernel
theorem dX8_offer_31 : decode cX8_offer 31 = .ok (.istore 4, 2) := by decide +kernel
theorem dX8_offer_33 : decode cX8_offer 33 = .ok (.aload_n 0, 1) := by decide +kernel
theorem dX8_offer_34 : decode cX8_offer 34 = .ok (.getfield 201, 3) := by decide +kernel
theorem dX8_offer_37 : decode cX8_offer 37 = .ok (.bipush (-9), 2) := by decide +kernel
theorem dX8_offer_39 : decode cX8_offer 39 = .ok (.if_icmp .eq 12, 3) := by decide +kernel
theorem dX8_offer_42 : decode cX8_offer 42 = .ok (.iload 4, 2) := by decide +kernel
theorem dX8_offer_44 : decode cX8_offer 44 = .ok (.aload_n 0, 1) := by decide +kernel
theorem dX8_offer_45 : decode cX8_offer 45 = .ok (.getfield 201, 3) := by decide +kernel
theorem dX8_offer_48 : decode cX8_offer 48 = .ok (.if_icmp .ge 7, 3) := by decide +kernel
theorem dX8_offer_51 : decode cX8_offer 51 = .ok (.iconst 1, 1) := by decide +kernel
theorem dX8_offer_52 : decode cX8_offer 52 = .ok (.goto 4, 3) := by decide +kernel
theorem dX8_offer_55 : decode cX8_offer 55 = .ok (.iconst 0, 1) := by decide +kernel
theorem dX8_offer_56 : decode cX8_offer 56 = .ok (.istore 5, 2) := by decide +kernel
theorem dX8_offer_58 : decode cX8_offer 58 = .ok (.iload 5, 2) := by decide +kernel
theorem dX8_offer_60 : decode cX8_offer 60 = .ok (.ifCond .eq 29, 3) := by decide +kernel
theorem dX8_offer_63 : decode cX8_offer 63 = .ok (.aload_n 0, 1) := by decide +kernel
theorem dX8_offer_64 : decode cX8_offer 64 = .ok (.iload_n 1, 1) := by decide +kernel
theorem dX8_offer_65 : decode cX8_offer 65 = .ok (.iload_n 2, 1) := by decide +kernel
theorem dX8_offer_66 : decode cX8_offer 66 = .ok (.iload_n 3, 1) := by decide +kernel
theorem dX8_offer_67 : decode cX8_offer 67 = .ok (.invokevirtual 204, 3) := by decide +kernel
theorem dX8_offer_70 : decode cX8_offer 70 = .ok (.ifCond .ne 19, 3) := by decide +kernel
theorem dX8_offer_73 : decode cX8_offer 73 = .ok (.aload_n 0, 1) := by decide +kernel
theorem dX8_offer_74 : decode cX8_offer 74 = .ok (.iload 4, 2) := by decide +kernel
theorem dX8_offer_76 : decode cX8_offer 76 = .ok (.putfield 201, 3) := by decide +kernel
theorem dX8_offer_79 : decode cX8_offer 79 = .ok (.aload_n 0, 1) := by decide +kernel
theorem dX8_offer_80 : decode cX8_offer 80 = .ok (.iload_n 1, 1) := by decide +kernel
theorem dX8_offer_81 : decode cX8_offer 81 = .ok (.putfield 207, 3) := by decide +kernel
theorem dX8_offer_84 : decode cX8_offer 84 = .ok (.aload_n 0, 1) := by decide +kernel
theorem dX8_offer_85 : decode cX8_offer 85 = .ok (.iload_n 2, 1) := by decide +kernel
theorem dX8_offer_86 : decode cX8_offer 86 = .ok (.putfield 210, 3) := by decide +kernel
theorem dX8_offer_89 : decode cX8_offer 89 = .ok (.return_, 1) := by decide +kernel
set_option maxRecDepth 20000 in
theorem ggX8_findPatch_X8_all : GoodIn wsX8_findPatch wsX8_all := goodIn_r _ [7, 8, 2, 79, 80, 81, 82, 83, 84, 85, 86, 87, 88, 89, 90, 91, 92, 93, 94, 95, 96, 97, 98, 99, 100, 101, 102, 103, 104, 105, 106, 107, 108, 109, 110, 111, 112, 113] (by decide +kernel) (by decide +kernel)
set_option maxRecDepth 20000 in
theorem gX8_findPatch_X8_all : GoodIn wsX8_findPatch (wsV RX8 81 RX8 yX8_all wsX8_all) := goodIn_app (goodIn_of _ (by decide +kernel)) ggX8_findPatch_X8_all
set_option maxRecDepth 20000 in
theorem ggX8_findPatch_X8_offer : GoodIn wsX8_findPatch wsX8_offer := goodIn_r _ [12, 2, 1, 13, 14, 15, 16, 17, 6, 18, 19, 20, 21, 22, 23, 24, 25, 26, 27, 28, 3, 4, 5, 7, 8, 29, 30, 31, 32, 33, 34, 35, 36, 37, 38, 39, 40, 41, 42, 43, 44, 45, 46, 47, 48, 49, 50, 51, 52, 53, 54, 55, 56, 57, 58, 59, 60, 61, 62, 63, 64, 65, 66, 67, 68, 69, 70, 71, 72, 73, 74, 75, 76, 77, 78, 79, 80, 81, 82, 83, 84, 85, 86, 87, 88, 89, 90, 91, 92, 93, 94, 95, 96, 97, 98, 99, 100, 101, 102, 103, 104, 105, 106, 107, 108, 109, 110, 111, 112, 113] (by decide +kernel) (by decide +kernel)
set_option maxRecDepth 20000 in
theorem gX8_findPatch_X8_offer : GoodIn wsX8_findPatch (wsV RX8 213 RX8 yX8_offer wsX8_offer) := goodIn_app (goodIn_of _ (by decide +kernel)) ggX8_findPatch_X8_offer
theorem dX8_findPatch_0 : decode cX8_findPatch 0 = .ok (.aload_n 0, 1) := by decide +kernel
theorem dX8_findPatch_1 : decode cX8_findPatch 1 = .ok (.bipush (-9), 2) := by decide +kernel
theorem dX8_findPatch_3 : decode cX8_findPatch 3 = .ok (.putfield 201, 3) := by decide +kernel
theorem dX8_findPatch_6 : decode cX8_findPatch 6 = .ok (.iload_n 1, 1) := by decide +kernel
theorem dX8_findPatch_7 : decode cX8_findPatch 7 = .ok (.aload_n 0, 1) := by decide +kernel
theorem dX8_findPatch_8 : decode cX8_findPatch 8 = .ok (.getfield 78, 3) := by decide +kernel
theorem dX8_findPatch_11 : decode cX8_findPatch 11 = .ok (.idiv, 1) := by decide +kernel
theorem dX8_findPatch_12 : decode cX8_findPatch 12 = .ok (.istore_n 3, 1) := by decide +kernel
theorem dX8_findPatch_13 : decode cX8_findPatch 13 = .ok (.iload_n 1, 1) := by decide +kernel
theorem dX8_findPatch_14 : decode cX8_findPatch 14 = .ok (.aload_n 0, 1) := by decide +kernel
theorem dX8_findPatch_15 : decode cX8_findPatch 15 = .ok (.getfield 78, 3) := by decide +kernel
theorem dX8_findPatch_18 : decode cX8_findPatch 18 = .ok (.irem, 1) := by decide +kernel
theorem dX8_findPatch_19 : decode cX8_findPatch 19 = .ok (.istore 4, 2) := by decide +kernel
theorem dX8_findPatch_21 : decode cX8_findPatch 21 = .ok (.iconst 0, 1) := by decide +kernel
theorem dX8_findPatch_22 : decode cX8_findPatch 22 = .ok (.istore 5, 2) := by decide +kernel
theorem dX8_findPatch_24 : decode cX8_findPatch 24 = .ok (.iload 5, 2) := by decide +kernel
theorem dX8_findPatch_26 : decode cX8_findPatch 26 = .ok (.iload_n 1, 1) := by decide +kernel
theorem dX8_findPatch_27 : decode cX8_findPatch 27 = .ok (.if_icmp .gt 82, 3) := by decide +kernel
theorem dX8_findPatch_30 : decode cX8_findPatch 30 = .ok (.iload_n 1, 1) := by decide +kernel
theorem dX8_findPatch_31 : decode cX8_findPatch 31 = .ok (.istore 6, 2) := by decide +kernel
theorem dX8_findPatch_33 : decode cX8_findPatch 33 = .ok (.iload 6, 2) := by decide +kernel
theorem dX8_findPatch_35 : decode cX8_findPatch 35 = .ok (.aload_n 0, 1) := by decide +kernel
theorem dX8_findPatch_36 : decode cX8_findPatch 36 = .ok (.invokevirtual 81, 3) := by decide +kernel
theorem dX8_findPatch_39 : decode cX8_findPatch 39 = .ok (.if_icmp .ge 64, 3) := by decide +kernel
theorem dX8_findPatch_42 : decode cX8_findPatch 42 = .ok (.iload 5, 2) := by decide +kernel
theorem dX8_findPatch_44 : decode cX8_findPatch 44 = .ok (.aload_n 0, 1) := by decide +kernel
theorem dX8_findPatch_45 : decode cX8_findPatch 45 = .ok (.getfield 78, 3) := by decide +kernel
theorem dX8_findPatch_48 : decode cX8_findPatch 48 = .ok (.idiv, 1) := by decide +kernel
theorem dX8_findPatch_49 : decode cX8_findPatch 49 = .ok (.iload_n 3, 1) := by decide +kernel
theorem dX8_findPatch_50 : decode cX8_findPatch 50 = .ok (.if_icmp .gt 47, 3) := by decide +kernel
theorem dX8_findPatch_53 : decode cX8_findPatch 53 = .ok (.iload 5, 2) := by decide +kernel
theorem dX8_findPatch_55 : decode cX8_findPatch 55 = .ok (.aload_n 0, 1) := by decide +kernel
theorem dX8_findPatch_56 : decode cX8_findPatch 56 = .ok (.getfield 78, 3) := by decide +kernel
theorem dX8_findPatch_59 : decode cX8_findPatch 59 = .ok (.irem, 1) := by decide +kernel
theorem dX8_findPatch_60 : decode cX8_findPatch 60 = .ok (.iload 4, 2) := by decide +kernel
theorem dX8_findPatch_62 : decode cX8_findPatch 62 = .ok (.if_icmp .gt 35, 3) := by decide +kernel
theorem dX8_findPatch_65 : decode cX8_findPatch 65 = .ok (.iload 6, 2) := by decide +kernel
theorem dX8_findPatch_67 : decode cX8_findPatch 67 = .ok (.aload_n 0, 1) := by decide +kernel
theorem dX8_findPatch_68 : decode cX8_findPatch 68 = .ok (.getfield 78, 3) := by decide +kernel
theorem dX8_findPatch_71 : decode cX8_findPatch 71 = .ok (.idiv, 1) := by decide +kernel
theorem dX8_findPatch_72 : decode cX8_findPatch 72 = .ok (.iload_n 3, 1) := by decide +kernel
theorem dX8_findPatch_73 : decode cX8_findPatch 73 = .ok (.if_icmp .lt 24, 3) := by decide +kernel
theorem dX8_findPatch_76 : decode cX8_findPatch 76 = .ok (.iload 6, 2) := by decide +kernel
theorem dX8_findPatch_78 : decode cX8_findPatch 78 = .ok (.aload_n 0, 1) := by decide +kernel
theorem dX8_findPatch_79 : decode cX8_findPatch 79 = .ok (.getfield 78, 3) := by decide +kernel
theorem dX8_findPatch_82 : decode cX8_findPatch 82 = .ok (.irem, 1) := by decide +kernel
theorem dX8_findPatch_83 : decode cX8_findPatch 83 = .ok (.iload 4, 2) := by decide +kernel
theorem dX8_findPatch_85 : decode cX8_findPatch 85 = .ok (.if_icmp .lt 12, 3) := by decide +kernel
theorem dX8_findPatch_88 : decode cX8_findPatch 88 = .ok (.aload_n 0, 1) := by decide +kernel
theorem dX8_findPatch_89 : decode cX8_findPatch 89 = .ok (.iload 5, 2) := by decide +kernel
theorem dX8_findPatch_91 : decode cX8_findPatch 91 = .ok (.iload 6, 2) := by decide +kernel
theorem dX8_findPatch_93 : decode cX8_findPatch 93 = .ok (.iload_n 2, 1) := by decide +kernel
theorem dX8_findPatch_94 : decode cX8_findPatch 94 = .ok (.invokevirtual 213, 3) := by decide +kernel
theorem dX8_findPatch_97 : decode cX8_findPatch 97 = .ok (.iinc 6 1, 3) := by decide +kernel
theorem dX8_findPatch_100 : decode cX8_findPatch 100 = .ok (.goto (-67), 3) := by decide +kernel
theorem dX8_findPatch_103 : decode cX8_findPatch 103 = .ok (.iinc 5 1, 3) := by decide +kernel
theorem dX8_findPatch_106 : decode cX8_findPatch 106 = .ok (.goto (-82), 3) := by decide +kernel
theorem dX8_findPatch_109 : decode cX8_findPatch 109 = .ok (.return_, 1) := by decide +kernel
set_option maxRecDepth 20000 in
theorem ggX8_patch_X8_isCell : GoodIn wsX8_patch wsX8_isCell := goodIn_r _ [8, 9, 10, 11, 7, 12, 13, 14, 86, 87, 88, 89, 90, 91, 92, 93, 94, 95, 96, 97, 98, 99, 100, 101, 102, 103, 104, 105, 106, 107, 108, 109, 110, 111, 112, 113, 114, 115, 116, 117, 118, 119, 120] (by decide +kernel) (by decide +kernel)
set_option maxRecDepth 20000 in
theorem gX8_patch_X8_isCell : GoodIn wsX8_patch (wsV RX8 134 RX8 yX8_isCell wsX8_isCell) := goodIn_app (goodIn_of _ (by decide +kernel)) ggX8_patch_X8_isCell
set_option maxRecDepth 20000 in
theorem ggX8_patch_X8_isCoat : GoodIn wsX8_patch wsX8_isCoat := goodIn_r _ [18, 19, 86, 87, 88, 89, 90, 91, 92, 93, 94, 95, 96, 97, 98, 99, 100, 101, 102, 103, 104, 105, 106, 107, 108, 109, 110, 111, 112, 113, 114, 115, 116, 117, 118, 119, 120] (by decide +kernel) (by decide +kernel)
set_option maxRecDepth 20000 in
theorem gX8_patch_X8_isCoat : GoodIn wsX8_patch (wsV RX8 137 RX8 yX8_isCoat wsX8_isCoat) := goodIn_app (goodIn_of _ (by decide +kernel)) ggX8_patch_X8_isCoat
set_option maxRecDepth 20000 in
theorem ggX8_patch_X8_within : GoodIn wsX8_patch wsX8_within := goodIn_r _ [22] (by decide +kernel) (by decide +kernel)
set_option maxRecDepth 20000 in
theorem gX8_patch_X8_within : GoodIn wsX8_patch (va_wsS RX8 71 yX8_within wsX8_within) := goodIn_app (goodIn_of _ (by decide +kernel)) ggX8_patch_X8_within
set_option maxRecDepth 20000 in
theorem ggX8_patch_X8_findPatch : GoodIn wsX8_patch wsX8_findPatch := goodIn_r _ [26, 1, 14, 9, 10, 11, 7, 12, 13, 27, 28, 29, 30, 2, 3, 31, 32, 33, 34, 35, 36, 37, 38, 39, 40, 41, 42, 43, 44, 45, 46, 47, 48, 4, 5, 6, 8, 15, 16, 17, 18, 19, 49, 50, 51, 52, 53, 54, 55, 56, 57, 58, 59, 60, 61, 62, 63, 64, 65, 66, 67, 68, 69, 70, 71, 72, 73, 74, 75, 76, 77, 78, 79, 80, 81, 82, 83, 84, 85, 86, 87, 88, 89, 90, 91, 92, 93, 94, 95, 96, 97, 98, 99, 100, 101, 102, 103, 104, 105, 106, 107, 108, 109, 110, 111, 112, 113, 114, 115, 116, 117, 118, 119, 120] (by decide +kernel) (by decide +kernel)
set_option maxRecDepth 20000 in
theorem gX8_patch_X8_findPatch : GoodIn wsX8_patch (wsV RX8 217 RX8 yX8_findPatch wsX8_findPatch) := goodIn_app (goodIn_of _ (by decide +kernel)) ggX8_patch_X8_findPatch
theorem dX8_patch_0 : decode cX8_patch 0 = .ok (.aload_n 0, 1) := by decide +kernel
theorem dX8_patch_1 : decode cX8_patch 1 = .ok (.iload_n 1, 1) := by decide +kernel
theorem dX8_patch_2 : decode cX8_patch 2 = .ok (.invokevirtual 134, 3) := by decide +kernel
theorem dX8_patch_5 : decode cX8_patch 5 = .ok (.ifCond .eq 11, 3) := by decide +kernel
theorem dX8_patch_8 : decode cX8_patch 8 = .ok (.aload_n 0, 1) := by decide +kernel
theorem dX8_patch_9 : decode cX8_patch 9 = .ok (.iload_n 2, 1) := by decide +kernel
theorem dX8_patch_10 : decode cX8_patch 10 = .ok (.invokevirtual 137, 3) := by decide +kernel
theorem dX8_patch_13 : decode cX8_patch 13 = .ok (.ifCond .ne 5, 3) := by decide +kernel
theorem dX8_patch_16 : decode cX8_patch 16 = .ok (.iconst (-1), 1) := by decide +kernel
theorem dX8_patch_17 : decode cX8_patch 17 = .ok (.ireturn, 1) := by decide +kernel
theorem dX8_patch_18 : decode cX8_patch 18 = .ok (.iload_n 3, 1) := by decide +kernel
theorem dX8_patch_19 : decode cX8_patch 19 = .ok (.iconst 0, 1) := by decide +kernel
theorem dX8_patch_20 : decode cX8_patch 20 = .ok (.iconst 2, 1) := by decide +kernel
theorem dX8_patch_21 : decode cX8_patch 21 = .ok (.invokestatic 71, 3) := by decide +kernel
theorem dX8_patch_24 : decode cX8_patch 24 = .ok (.ifCond .ne 6, 3) := by decide +kernel
theorem dX8_patch_27 : decode cX8_patch 27 = .ok (.bipush (-2), 2) := by decide +kernel
theorem dX8_patch_29 : decode cX8_patch 29 = .ok (.ireturn, 1) := by decide +kernel
theorem dX8_patch_30 : decode cX8_patch 30 = .ok (.aload_n 0, 1) := by decide +kernel
theorem dX8_patch_31 : decode cX8_patch 31 = .ok (.iload_n 1, 1) := by decide +kernel
theorem dX8_patch_32 : decode cX8_patch 32 = .ok (.iload_n 2, 1) := by decide +kernel
theorem dX8_patch_33 : decode cX8_patch 33 = .ok (.invokevirtual 217, 3) := by decide +kernel
theorem dX8_patch_36 : decode cX8_patch 36 = .ok (.aload_n 0, 1) := by decide +kernel
theorem dX8_patch_37 : decode cX8_patch 37 = .ok (.getfield 201, 3) := by decide +kernel
theorem dX8_patch_40 : decode cX8_patch 40 = .ok (.bipush (-9), 2) := by decide +kernel
theorem dX8_patch_42 : decode cX8_patch 42 = .ok (.if_icmp .ne 8, 3) := by decide +kernel
theorem dX8_patch_45 : decode cX8_patch 45 = .ok (.bipush (-9), 2) := by decide +kernel
theorem dX8_patch_47 : decode cX8_patch 47 = .ok (.goto 30, 3) := by decide +kernel
theorem dX8_patch_50 : decode cX8_patch 50 = .ok (.iload_n 3, 1) := by decide +kernel
theorem dX8_patch_51 : decode cX8_patch 51 = .ok (.ifCond .ne 10, 3) := by decide +kernel
theorem dX8_patch_54 : decode cX8_patch 54 = .ok (.aload_n 0, 1) := by decide +kernel
theorem dX8_patch_55 : decode cX8_patch 55 = .ok (.getfield 201, 3) := by decide +kernel
theorem dX8_patch_58 : decode cX8_patch 58 = .ok (.goto 19, 3) := by decide +kernel
theorem dX8_patch_61 : decode cX8_patch 61 = .ok (.iload_n 3, 1) := by decide +kernel
theorem dX8_patch_62 : decode cX8_patch 62 = .ok (.iconst 1, 1) := by decide +kernel
theorem dX8_patch_63 : decode cX8_patch 63 = .ok (.if_icmp .ne 10, 3) := by decide +kernel
theorem dX8_patch_66 : decode cX8_patch 66 = .ok (.aload_n 0, 1) := by decide +kernel
theorem dX8_patch_67 : decode cX8_patch 67 = .ok (.getfield 207, 3) := by decide +kernel
theorem dX8_patch_70 : decode cX8_patch 70 = .ok (.goto 7, 3) := by decide +kernel
theorem dX8_patch_73 : decode cX8_patch 73 = .ok (.aload_n 0, 1) := by decide +kernel
theorem dX8_patch_74 : decode cX8_patch 74 = .ok (.getfield 210, 3) := by decide +kernel
theorem dX8_patch_77 : decode cX8_patch 77 = .ok (.ireturn, 1) := by decide +kernel
set_option maxRecDepth 20000 in
theorem ggX8_leave_X8_isCell : GoodIn wsX8_leave wsX8_isCell := goodIn_r _ [5, 6, 7, 8, 4, 9, 10, 11, 72, 73, 74, 75, 76, 77, 78, 79, 80, 81, 82, 83, 84, 85, 86, 87, 88, 89, 90, 91, 92, 93, 94, 95, 96, 97, 98, 99, 100, 101, 102, 103, 104, 105, 106] (by decide +kernel) (by decide +kernel)
set_option maxRecDepth 20000 in
theorem gX8_leave_X8_isCell : GoodIn wsX8_leave (wsV RX8 134 RX8 yX8_isCell wsX8_isCell) := goodIn_app (goodIn_of _ (by decide +kernel)) ggX8_leave_X8_isCell
set_option maxRecDepth 20000 in
theorem ggX8_leave_X8_isCoat : GoodIn wsX8_leave wsX8_isCoat := goodIn_r _ [15, 16, 72, 73, 74, 75, 76, 77, 78, 79, 80, 81, 82, 83, 84, 85, 86, 87, 88, 89, 90, 91, 92, 93, 94, 95, 96, 97, 98, 99, 100, 101, 102, 103, 104, 105, 106] (by decide +kernel) (by decide +kernel)
set_option maxRecDepth 20000 in
theorem gX8_leave_X8_isCoat : GoodIn wsX8_leave (wsV RX8 137 RX8 yX8_isCoat wsX8_isCoat) := goodIn_app (goodIn_of _ (by decide +kernel)) ggX8_leave_X8_isCoat
set_option maxRecDepth 20000 in
theorem ggX8_leave_X8_seenOf : GoodIn wsX8_leave wsX8_seenOf := goodIn_r _ [20, 11, 10, 6, 7, 8, 4, 9, 21, 22, 23, 24, 25, 26, 27, 28, 29, 30, 31, 32, 33, 34, 35, 36, 37, 38, 39, 40, 41, 42, 43, 44, 45, 46, 47, 48, 49, 50, 51, 52, 72, 73, 74, 75, 76, 77, 78, 79, 80, 81, 82, 83, 84, 85, 86, 87, 88, 89, 90, 91, 92, 93, 94, 95, 96, 97, 98, 99, 100, 101, 102, 103, 104, 105, 106] (by decide +kernel) (by decide +kernel)
set_option maxRecDepth 20000 in
theorem gX8_leave_X8_seenOf : GoodIn wsX8_leave (wsV RX8 165 RX8 yX8_seenOf wsX8_seenOf) := goodIn_app (goodIn_of _ (by decide +kernel)) ggX8_leave_X8_seenOf
set_option maxRecDepth 20000 in
theorem ggX8_leave_X8_seenWith : GoodIn wsX8_leave wsX8_seenWith := goodIn_r _ [56, 11, 57, 58, 59, 4, 60, 61, 31, 62, 32, 63, 33, 6, 7, 8, 9, 10, 64, 65, 66, 67, 1, 2, 3, 5, 12, 13, 14, 15, 16, 17, 18, 19, 20, 21, 22, 23, 24, 25, 26, 27, 28, 29, 30, 34, 35, 36, 37, 38, 39, 40, 41, 42, 43, 44, 45, 46, 47, 48, 49, 50, 51, 52, 68, 69, 70, 71, 72, 73, 74, 75, 76, 77, 78, 79, 80, 81, 82, 83, 84, 85, 86, 87, 88, 89, 90, 91, 92, 93, 94, 95, 96, 97, 98, 99, 100, 101, 102, 103, 104, 105, 106] (by decide +kernel) (by decide +kernel)
set_option maxRecDepth 20000 in
theorem gX8_leave_X8_seenWith : GoodIn wsX8_leave (wsV RX8 204 RX8 yX8_seenWith wsX8_seenWith) := goodIn_app (goodIn_of _ (by decide +kernel)) ggX8_leave_X8_seenWith
theorem dX8_leave_0 : decode cX8_leave 0 = .ok (.aload_n 0, 1) := by decide +kernel
theorem dX8_leave_1 : decode cX8_leave 1 = .ok (.iload_n 1, 1) := by decide +kernel
theorem dX8_leave_2 : decode cX8_leave 2 = .ok (.invokevirtual 134, 3) := by decide +kernel
theorem dX8_leave_5 : decode cX8_leave 5 = .ok (.ifCond .eq 11, 3) := by decide +kernel
theorem dX8_leave_8 : decode cX8_leave 8 = .ok (.aload_n 0, 1) := by decide +kernel
theorem dX8_leave_9 : decode cX8_leave 9 = .ok (.iload_n 2, 1) := by decide +kernel
theorem dX8_leave_10 : decode cX8_leave 10 = .ok (.invokevirtual 137, 3) := by decide +kernel
theorem dX8_leave_13 : decode cX8_leave 13 = .ok (.ifCond .ne 5, 3) := by decide +kernel
theorem dX8_leave_16 : decode cX8_leave 16 = .ok (.iconst (-1), 1) := by decide +kernel
theorem dX8_leave_17 : decode cX8_leave 17 = .ok (.ireturn, 1) := by decide +kernel
theorem dX8_leave_18 : decode cX8_leave 18 = .ok (.aload_n 0, 1) := by decide +kernel
theorem dX8_leave_19 : decode cX8_leave 19 = .ok (.bipush (-9), 2) := by decide +kernel
theorem dX8_leave_21 : decode cX8_leave 21 = .ok (.invokevirtual 165, 3) := by decide +kernel
theorem dX8_leave_24 : decode cX8_leave 24 = .ok (.aload_n 0, 1) := by decide +kernel
theorem dX8_leave_25 : decode cX8_leave 25 = .ok (.iload_n 1, 1) := by decide +kernel
theorem dX8_leave_26 : decode cX8_leave 26 = .ok (.iload_n 1, 1) := by decide +kernel
theorem dX8_leave_27 : decode cX8_leave 27 = .ok (.iload_n 2, 1) := by decide +kernel
theorem dX8_leave_28 : decode cX8_leave 28 = .ok (.invokevirtual 204, 3) := by decide +kernel
theorem dX8_leave_31 : decode cX8_leave 31 = .ok (.isub, 1) := by decide +kernel
theorem dX8_leave_32 : decode cX8_leave 32 = .ok (.bipush 100, 2) := by decide +kernel
theorem dX8_leave_34 : decode cX8_leave 34 = .ok (.iadd, 1) := by decide +kernel
theorem dX8_leave_35 : decode cX8_leave 35 = .ok (.ireturn, 1) := by decide +kernel
set_option maxRecDepth 20000 in
theorem ggX8_on_X8_isCell : GoodIn wsX8_on wsX8_isCell := goodIn_r _ [10, 11, 12, 13, 9, 14, 15, 16, 41, 42, 43, 44, 45, 46, 47, 48, 49, 50, 51, 52, 53, 54, 55, 56, 57, 58, 59, 60, 61, 62, 63, 64, 65, 66, 67, 68, 69, 70, 71, 72, 73, 74, 75] (by decide +kernel) (by decide +kernel)
set_option maxRecDepth 20000 in
theorem gX8_on_X8_isCell : GoodIn wsX8_on (wsV RX8 134 RX8 yX8_isCell wsX8_isCell) := goodIn_app (goodIn_of _ (by decide +kernel)) ggX8_on_X8_isCell
set_option maxRecDepth 20000 in
theorem ggX8_on_X8_isLight : GoodIn wsX8_on wsX8_isLight := goodIn_r _ [20, 21, 41, 42, 43, 44, 45, 46, 47, 48, 49, 50, 51, 52, 53, 54, 55, 56, 57, 58, 59, 60, 61, 62, 63, 64, 65, 66, 67, 68, 69, 70, 71, 72, 73, 74, 75] (by decide +kernel) (by decide +kernel)
set_option maxRecDepth 20000 in
theorem gX8_on_X8_isLight : GoodIn wsX8_on (wsV RX8 151 RX8 yX8_isLight wsX8_isLight) := goodIn_app (goodIn_of _ (by decide +kernel)) ggX8_on_X8_isLight
set_option maxRecDepth 20000 in
theorem ggX8_on_X8_within : GoodIn wsX8_on wsX8_within := goodIn_r _ [24] (by decide +kernel) (by decide +kernel)
set_option maxRecDepth 20000 in
theorem gX8_on_X8_within : GoodIn wsX8_on (va_wsS RX8 71 yX8_within wsX8_within) := goodIn_app (goodIn_of _ (by decide +kernel)) ggX8_on_X8_within
set_option maxRecDepth 20000 in
theorem ggX8_on_X8_lookOf : GoodIn wsX8_on wsX8_lookOf := goodIn_r _ [28, 29, 30, 31, 32, 9, 33, 34, 35, 36, 37, 38, 39, 40, 41, 42, 43, 44, 45, 46, 47, 48, 49, 50, 51, 52, 53, 54, 55, 56, 57, 58, 59, 60, 61, 62, 63, 64, 65, 66, 67, 68, 69, 70, 71, 72, 73, 74, 75] (by decide +kernel) (by decide +kernel)
set_option maxRecDepth 20000 in
theorem gX8_on_X8_lookOf : GoodIn wsX8_on (wsV RX8 148 RX8 yX8_lookOf wsX8_lookOf) := goodIn_app (goodIn_of _ (by decide +kernel)) ggX8_on_X8_lookOf
theorem dX8_on_0 : decode cX8_on 0 = .ok (.aload_n 0, 1) := by decide +kernel
theorem dX8_on_1 : decode cX8_on 1 = .ok (.iload_n 1, 1) := by decide +kernel
theorem dX8_on_2 : decode cX8_on 2 = .ok (.invokevirtual 134, 3) := by decide +kernel
theorem dX8_on_5 : decode cX8_on 5 = .ok (.ifCond .eq 11, 3) := by decide +kernel
theorem dX8_on_8 : decode cX8_on 8 = .ok (.aload_n 0, 1) := by decide +kernel
theorem dX8_on_9 : decode cX8_on 9 = .ok (.iload_n 2, 1) := by decide +kernel
theorem dX8_on_10 : decode cX8_on 10 = .ok (.invokevirtual 151, 3) := by decide +kernel
theorem dX8_on_13 : decode cX8_on 13 = .ok (.ifCond .ne 5, 3) := by decide +kernel
theorem dX8_on_16 : decode cX8_on 16 = .ok (.iconst (-1), 1) := by decide +kernel
theorem dX8_on_17 : decode cX8_on 17 = .ok (.ireturn, 1) := by decide +kernel
theorem dX8_on_18 : decode cX8_on 18 = .ok (.iload_n 3, 1) := by decide +kernel
theorem dX8_on_19 : decode cX8_on 19 = .ok (.iconst 0, 1) := by decide +kernel
theorem dX8_on_20 : decode cX8_on 20 = .ok (.bipush 40, 2) := by decide +kernel
theorem dX8_on_22 : decode cX8_on 22 = .ok (.invokestatic 71, 3) := by decide +kernel
theorem dX8_on_25 : decode cX8_on 25 = .ok (.ifCond .ne 6, 3) := by decide +kernel
theorem dX8_on_28 : decode cX8_on 28 = .ok (.bipush (-2), 2) := by decide +kernel
theorem dX8_on_30 : decode cX8_on 30 = .ok (.ireturn, 1) := by decide +kernel
theorem dX8_on_31 : decode cX8_on 31 = .ok (.aload_n 0, 1) := by decide +kernel
theorem dX8_on_32 : decode cX8_on 32 = .ok (.getfield 31, 3) := by decide +kernel
theorem dX8_on_35 : decode cX8_on 35 = .ok (.iload_n 1, 1) := by decide +kernel
theorem dX8_on_36 : decode cX8_on 36 = .ok (.baload, 1) := by decide +kernel
theorem dX8_on_37 : decode cX8_on 37 = .ok (.ifCond .eq 7, 3) := by decide +kernel
theorem dX8_on_40 : decode cX8_on 40 = .ok (.iconst 0, 1) := by decide +kernel
theorem dX8_on_41 : decode cX8_on 41 = .ok (.goto 4, 3) := by decide +kernel
theorem dX8_on_44 : decode cX8_on 44 = .ok (.iload_n 3, 1) := by decide +kernel
theorem dX8_on_45 : decode cX8_on 45 = .ok (.istore 4, 2) := by decide +kernel
theorem dX8_on_47 : decode cX8_on 47 = .ok (.aload_n 0, 1) := by decide +kernel
theorem dX8_on_48 : decode cX8_on 48 = .ok (.aload_n 0, 1) := by decide +kernel
theorem dX8_on_49 : decode cX8_on 49 = .ok (.getfield 22, 3) := by decide +kernel
theorem dX8_on_52 : decode cX8_on 52 = .ok (.iload_n 1, 1) := by decide +kernel
theorem dX8_on_53 : decode cX8_on 53 = .ok (.iaload, 1) := by decide +kernel
theorem dX8_on_54 : decode cX8_on 54 = .ok (.aload_n 0, 1) := by decide +kernel
theorem dX8_on_55 : decode cX8_on 55 = .ok (.getfield 25, 3) := by decide +kernel
theorem dX8_on_58 : decode cX8_on 58 = .ok (.iload_n 1, 1) := by decide +kernel
theorem dX8_on_59 : decode cX8_on 59 = .ok (.iaload, 1) := by decide +kernel
theorem dX8_on_60 : decode cX8_on 60 = .ok (.iload 4, 2) := by decide +kernel
theorem dX8_on_62 : decode cX8_on 62 = .ok (.aload_n 0, 1) := by decide +kernel
theorem dX8_on_63 : decode cX8_on 63 = .ok (.getfield 19, 3) := by decide +kernel
theorem dX8_on_66 : decode cX8_on 66 = .ok (.iload_n 1, 1) := by decide +kernel
theorem dX8_on_67 : decode cX8_on 67 = .ok (.iaload, 1) := by decide +kernel
theorem dX8_on_68 : decode cX8_on 68 = .ok (.imul, 1) := by decide +kernel
theorem dX8_on_69 : decode cX8_on 69 = .ok (.iadd, 1) := by decide +kernel
theorem dX8_on_70 : decode cX8_on 70 = .ok (.aload_n 0, 1) := by decide +kernel
theorem dX8_on_71 : decode cX8_on 71 = .ok (.getfield 28, 3) := by decide +kernel
theorem dX8_on_74 : decode cX8_on 74 = .ok (.iload_n 1, 1) := by decide +kernel
theorem dX8_on_75 : decode cX8_on 75 = .ok (.iaload, 1) := by decide +kernel
theorem dX8_on_76 : decode cX8_on 76 = .ok (.iload 4, 2) := by decide +kernel
theorem dX8_on_78 : decode cX8_on 78 = .ok (.iadd, 1) := by decide +kernel
theorem dX8_on_79 : decode cX8_on 79 = .ok (.iload_n 2, 1) := by decide +kernel
theorem dX8_on_80 : decode cX8_on 80 = .ok (.iconst 0, 1) := by decide +kernel
theorem dX8_on_81 : decode cX8_on 81 = .ok (.invokevirtual 148, 3) := by decide +kernel
theorem dX8_on_84 : decode cX8_on 84 = .ok (.ireturn, 1) := by decide +kernel
set_option maxRecDepth 20000 in
theorem ggX8_hide_X8_within : GoodIn wsX8_hide wsX8_within := goodIn_r _ [4] (by decide +kernel) (by decide +kernel)
set_option maxRecDepth 20000 in
theorem gX8_hide_X8_within : GoodIn wsX8_hide (va_wsS RX8 71 yX8_within wsX8_within) := goodIn_app (goodIn_of _ (by decide +kernel)) ggX8_hide_X8_within
set_option maxRecDepth 20000 in
theorem ggX8_hide_X8_all : GoodIn wsX8_hide wsX8_all := goodIn_r _ [8, 9, 10, 47, 48, 49, 50, 51, 52, 53, 54, 55, 56, 57, 58, 59, 60, 61, 62, 63, 64, 65, 66, 67, 68, 69, 70, 71, 72, 73, 74, 75, 76, 77, 78, 79, 80, 81] (by decide +kernel) (by decide +kernel)
set_option maxRecDepth 20000 in
theorem gX8_hide_X8_all : GoodIn wsX8_hide (wsV RX8 81 RX8 yX8_all wsX8_all) := goodIn_app (goodIn_of _ (by decide +kernel)) ggX8_hide_X8_all
set_option maxRecDepth 20000 in
theorem ggX8_hide_X8_seenOf : GoodIn wsX8_hide wsX8_seenOf := goodIn_r _ [14, 10, 9, 5, 6, 7, 3, 8, 15, 16, 17, 18, 19, 20, 21, 22, 23, 24, 25, 26, 27, 28, 29, 30, 31, 32, 33, 34, 35, 36, 37, 38, 39, 40, 41, 42, 43, 44, 45, 46, 47, 48, 49, 50, 51, 52, 53, 54, 55, 56, 57, 58, 59, 60, 61, 62, 63, 64, 65, 66, 67, 68, 69, 70, 71, 72, 73, 74, 75, 76, 77, 78, 79, 80, 81] (by decide +kernel) (by decide +kernel)
set_option maxRecDepth 20000 in
theorem gX8_hide_X8_seenOf : GoodIn wsX8_hide (wsV RX8 165 RX8 yX8_seenOf wsX8_seenOf) := goodIn_app (goodIn_of _ (by decide +kernel)) ggX8_hide_X8_seenOf
theorem dX8_hide_0 : decode cX8_hide 0 = .ok (.iload_n 1, 1) := by decide +kernel
theorem dX8_hide_1 : decode cX8_hide 1 = .ok (.iconst 0, 1) := by decide +kernel
theorem dX8_hide_2 : decode cX8_hide 2 = .ok (.iconst 1, 1) := by decide +kernel
theorem dX8_hide_3 : decode cX8_hide 3 = .ok (.invokestatic 71, 3) := by decide +kernel
theorem dX8_hide_6 : decode cX8_hide 6 = .ok (.ifCond .ne 6, 3) := by decide +kernel
theorem dX8_hide_9 : decode cX8_hide 9 = .ok (.bipush (-2), 2) := by decide +kernel
theorem dX8_hide_11 : decode cX8_hide 11 = .ok (.ireturn, 1) := by decide +kernel
theorem dX8_hide_12 : decode cX8_hide 12 = .ok (.aload_n 0, 1) := by decide +kernel
theorem dX8_hide_13 : decode cX8_hide 13 = .ok (.invokevirtual 81, 3) := by decide +kernel
theorem dX8_hide_16 : decode cX8_hide 16 = .ok (.ifCond .ne 6, 3) := by decide +kernel
theorem dX8_hide_19 : decode cX8_hide 19 = .ok (.bipush (-3), 2) := by decide +kernel
theorem dX8_hide_21 : decode cX8_hide 21 = .ok (.ireturn, 1) := by decide +kernel
theorem dX8_hide_22 : decode cX8_hide 22 = .ok (.iconst 0, 1) := by decide +kernel
theorem dX8_hide_23 : decode cX8_hide 23 = .ok (.istore_n 2, 1) := by decide +kernel
theorem dX8_hide_24 : decode cX8_hide 24 = .ok (.iconst (-1), 1) := by decide +kernel
theorem dX8_hide_25 : decode cX8_hide 25 = .ok (.istore_n 3, 1) := by decide +kernel
theorem dX8_hide_26 : decode cX8_hide 26 = .ok (.iconst 0, 1) := by decide +kernel
theorem dX8_hide_27 : decode cX8_hide 27 = .ok (.istore 4, 2) := by decide +kernel
theorem dX8_hide_29 : decode cX8_hide 29 = .ok (.iload 4, 2) := by decide +kernel
theorem dX8_hide_31 : decode cX8_hide 31 = .ok (.aload_n 0, 1) := by decide +kernel
theorem dX8_hide_32 : decode cX8_hide 32 = .ok (.invokevirtual 81, 3) := by decide +kernel
theorem dX8_hide_35 : decode cX8_hide 35 = .ok (.if_icmp .ge 29, 3) := by decide +kernel
theorem dX8_hide_38 : decode cX8_hide 38 = .ok (.aload_n 0, 1) := by decide +kernel
theorem dX8_hide_39 : decode cX8_hide 39 = .ok (.iload 4, 2) := by decide +kernel
theorem dX8_hide_41 : decode cX8_hide 41 = .ok (.invokevirtual 165, 3) := by decide +kernel
theorem dX8_hide_44 : decode cX8_hide 44 = .ok (.istore 5, 2) := by decide +kernel
theorem dX8_hide_46 : decode cX8_hide 46 = .ok (.iload 5, 2) := by decide +kernel
theorem dX8_hide_48 : decode cX8_hide 48 = .ok (.iload_n 3, 1) := by decide +kernel
theorem dX8_hide_49 : decode cX8_hide 49 = .ok (.if_icmp .le 9, 3) := by decide +kernel
theorem dX8_hide_52 : decode cX8_hide 52 = .ok (.iload 5, 2) := by decide +kernel
theorem dX8_hide_54 : decode cX8_hide 54 = .ok (.istore_n 3, 1) := by decide +kernel
theorem dX8_hide_55 : decode cX8_hide 55 = .ok (.iload 4, 2) := by decide +kernel
theorem dX8_hide_57 : decode cX8_hide 57 = .ok (.istore_n 2, 1) := by decide +kernel
theorem dX8_hide_58 : decode cX8_hide 58 = .ok (.iinc 4 1, 3) := by decide +kernel
theorem dX8_hide_61 : decode cX8_hide 61 = .ok (.goto (-32), 3) := by decide +kernel
theorem dX8_hide_64 : decode cX8_hide 64 = .ok (.iload_n 1, 1) := by decide +kernel
theorem dX8_hide_65 : decode cX8_hide 65 = .ok (.ifCond .ne 7, 3) := by decide +kernel
theorem dX8_hide_68 : decode cX8_hide 68 = .ok (.iload_n 2, 1) := by decide +kernel
theorem dX8_hide_69 : decode cX8_hide 69 = .ok (.goto 4, 3) := by decide +kernel
theorem dX8_hide_72 : decode cX8_hide 72 = .ok (.iload_n 3, 1) := by decide +kernel
theorem dX8_hide_73 : decode cX8_hide 73 = .ok (.ireturn, 1) := by decide +kernel
set_option maxRecDepth 20000 in
theorem ggX8_isSo_X8_comesOf : GoodIn wsX8_isSo wsX8_comesOf := goodIn_r _ [6, 7, 8, 9, 10, 11, 5, 12, 13, 14, 15, 16, 17, 18, 19, 20, 21, 22, 23, 24, 25, 26, 27, 28, 29, 30, 31, 32, 33, 34, 35, 36, 37, 38, 39, 40, 41, 42, 43, 44, 45, 46, 47, 48] (by decide +kernel) (by decide +kernel)
set_option maxRecDepth 20000 in
theorem gX8_isSo_X8_comesOf : GoodIn wsX8_isSo (wsV RX8 144 RX8 yX8_comesOf wsX8_comesOf) := goodIn_app (goodIn_of _ (by decide +kernel)) ggX8_isSo_X8_comesOf
theorem dX8_isSo_0 : decode cX8_isSo 0 = .ok (.iconst 0, 1) := by decide +kernel
theorem dX8_isSo_1 : decode cX8_isSo 1 = .ok (.istore 5, 2) := by decide +kernel
theorem dX8_isSo_3 : decode cX8_isSo 3 = .ok (.iload 5, 2) := by decide +kernel
theorem dX8_isSo_5 : decode cX8_isSo 5 = .ok (.iconst 3, 1) := by decide +kernel
theorem dX8_isSo_6 : decode cX8_isSo 6 = .ok (.if_icmp .ge 36, 3) := by decide +kernel
theorem dX8_isSo_9 : decode cX8_isSo 9 = .ok (.aload_n 0, 1) := by decide +kernel
theorem dX8_isSo_10 : decode cX8_isSo 10 = .ok (.iload_n 1, 1) := by decide +kernel
theorem dX8_isSo_11 : decode cX8_isSo 11 = .ok (.iload 5, 2) := by decide +kernel
theorem dX8_isSo_13 : decode cX8_isSo 13 = .ok (.iload_n 2, 1) := by decide +kernel
theorem dX8_isSo_14 : decode cX8_isSo 14 = .ok (.iload_n 3, 1) := by decide +kernel
theorem dX8_isSo_15 : decode cX8_isSo 15 = .ok (.imul, 1) := by decide +kernel
theorem dX8_isSo_16 : decode cX8_isSo 16 = .ok (.iload_n 3, 1) := by decide +kernel
theorem dX8_isSo_17 : decode cX8_isSo 17 = .ok (.iconst 0, 1) := by decide +kernel
theorem dX8_isSo_18 : decode cX8_isSo 18 = .ok (.invokevirtual 144, 3) := by decide +kernel
theorem dX8_isSo_21 : decode cX8_isSo 21 = .ok (.aload_n 0, 1) := by decide +kernel
theorem dX8_isSo_22 : decode cX8_isSo 22 = .ok (.getfield 16, 3) := by decide +kernel
theorem dX8_isSo_25 : decode cX8_isSo 25 = .ok (.iload 4, 2) := by decide +kernel
theorem dX8_isSo_27 : decode cX8_isSo 27 = .ok (.iload 5, 2) := by decide +kernel
theorem dX8_isSo_29 : decode cX8_isSo 29 = .ok (.iadd, 1) := by decide +kernel
theorem dX8_isSo_30 : decode cX8_isSo 30 = .ok (.iaload, 1) := by decide +kernel
theorem dX8_isSo_31 : decode cX8_isSo 31 = .ok (.if_icmp .eq 5, 3) := by decide +kernel
theorem dX8_isSo_34 : decode cX8_isSo 34 = .ok (.iconst 0, 1) := by decide +kernel
theorem dX8_isSo_35 : decode cX8_isSo 35 = .ok (.ireturn, 1) := by decide +kernel
theorem dX8_isSo_36 : decode cX8_isSo 36 = .ok (.iinc 5 1, 3) := by decide +kernel
theorem dX8_isSo_39 : decode cX8_isSo 39 = .ok (.goto (-36), 3) := by decide +kernel
theorem dX8_isSo_42 : decode cX8_isSo 42 = .ok (.iconst 1, 1) := by decide +kernel
theorem dX8_isSo_43 : decode cX8_isSo 43 = .ok (.ireturn, 1) := by decide +kernel
set_option maxRecDepth 20000 in
theorem ggX8_hung_X8_isCoat : GoodIn wsX8_hung wsX8_isCoat := goodIn_r _ [7, 8, 44, 45, 46, 47, 48, 49, 50, 51, 52, 53, 54, 55, 56, 57, 58, 59, 60, 61, 62, 63, 64, 65, 66, 67, 68, 69, 70, 71, 72, 73, 74, 75, 76, 77, 78] (by decide +kernel) (by decide +kernel)
set_option maxRecDepth 20000 in
theorem gX8_hung_X8_isCoat : GoodIn wsX8_hung (wsV RX8 137 RX8 yX8_isCoat wsX8_isCoat) := goodIn_app (goodIn_of _ (by decide +kernel)) ggX8_hung_X8_isCoat
set_option maxRecDepth 20000 in
theorem ggX8_hung_X8_isSheet : GoodIn wsX8_hung wsX8_isSheet := goodIn_r _ [11, 12, 13, 6, 14] (by decide +kernel) (by decide +kernel)
set_option maxRecDepth 20000 in
theorem gX8_hung_X8_isSheet : GoodIn wsX8_hung (va_wsS RX8 88 yX8_isSheet wsX8_isSheet) := goodIn_app (goodIn_of _ (by decide +kernel)) ggX8_hung_X8_isSheet
set_option maxRecDepth 20000 in
theorem ggX8_hung_X8_within : GoodIn wsX8_hung wsX8_within := goodIn_r _ [14] (by decide +kernel) (by decide +kernel)
set_option maxRecDepth 20000 in
theorem gX8_hung_X8_within : GoodIn wsX8_hung (va_wsS RX8 71 yX8_within wsX8_within) := goodIn_app (goodIn_of _ (by decide +kernel)) ggX8_hung_X8_within
set_option maxRecDepth 20000 in
theorem ggX8_hung_X8_isSort : GoodIn wsX8_hung wsX8_isSort := goodIn_r _ [17, 12, 13, 6, 14] (by decide +kernel) (by decide +kernel)
set_option maxRecDepth 20000 in
theorem gX8_hung_X8_isSort : GoodIn wsX8_hung (va_wsS RX8 92 yX8_isSort wsX8_isSort) := goodIn_app (goodIn_of _ (by decide +kernel)) ggX8_hung_X8_isSort
set_option maxRecDepth 20000 in
theorem ggX8_hung_X8_against : GoodIn wsX8_hung wsX8_against := goodIn_r _ [21, 22, 23, 44, 45, 46, 47, 48, 49, 50, 51, 52, 53, 54, 55, 56, 57, 58, 59, 60, 61, 62, 63, 64, 65, 66, 67, 68, 69, 70, 71, 72, 73, 74, 75, 76, 77, 78] (by decide +kernel) (by decide +kernel)
set_option maxRecDepth 20000 in
theorem gX8_hung_X8_against : GoodIn wsX8_hung (wsV RX8 95 RX8 yX8_against wsX8_against) := goodIn_app (goodIn_of _ (by decide +kernel)) ggX8_hung_X8_against
set_option maxRecDepth 20000 in
theorem ggX8_hung_X8_fails : GoodIn wsX8_hung wsX8_fails := goodIn_r _ [27, 1, 44, 45, 46, 47, 48, 49, 50, 51, 52, 53, 54, 55, 56, 57, 58, 59, 60, 61, 62, 63, 64, 65, 66, 67, 68, 69, 70, 71, 72, 73, 74, 75, 76, 77, 78] (by decide +kernel) (by decide +kernel)
set_option maxRecDepth 20000 in
theorem gX8_hung_X8_fails : GoodIn wsX8_hung (wsV RX8 99 RX8 yX8_fails wsX8_fails) := goodIn_app (goodIn_of _ (by decide +kernel)) ggX8_hung_X8_fails
set_option maxRecDepth 20000 in
theorem ggX8_hung_X8_isSo : GoodIn wsX8_hung wsX8_isSo := goodIn_r _ [31, 32, 33, 34, 35, 6, 36, 37, 38, 39, 40, 41, 42, 43, 44, 45, 46, 47, 48, 49, 50, 51, 52, 53, 54, 55, 56, 57, 58, 59, 60, 61, 62, 63, 64, 65, 66, 67, 68, 69, 70, 71, 72, 73, 74, 75, 76, 77, 78] (by decide +kernel) (by decide +kernel)
set_option maxRecDepth 20000 in
theorem gX8_hung_X8_isSo : GoodIn wsX8_hung (wsV RX8 221 RX8 yX8_isSo wsX8_isSo) := goodIn_app (goodIn_of _ (by decide +kernel)) ggX8_hung_X8_isSo
theorem dX8_hung_0 : decode cX8_hung 0 = .ok (.aload_n 0, 1) := by decide +kernel
theorem dX8_hung_1 : decode cX8_hung 1 = .ok (.iconst 0, 1) := by decide +kernel
theorem dX8_hung_2 : decode cX8_hung 2 = .ok (.putfield 65, 3) := by decide +kernel
theorem dX8_hung_5 : decode cX8_hung 5 = .ok (.aload_n 0, 1) := by decide +kernel
theorem dX8_hung_6 : decode cX8_hung 6 = .ok (.iload_n 1, 1) := by decide +kernel
theorem dX8_hung_7 : decode cX8_hung 7 = .ok (.invokevirtual 137, 3) := by decide +kernel
theorem dX8_hung_10 : decode cX8_hung 10 = .ok (.ifCond .eq 10, 3) := by decide +kernel
theorem dX8_hung_13 : decode cX8_hung 13 = .ok (.iload_n 3, 1) := by decide +kernel
theorem dX8_hung_14 : decode cX8_hung 14 = .ok (.invokestatic 88, 3) := by decide +kernel
theorem dX8_hung_17 : decode cX8_hung 17 = .ok (.ifCond .ne 5, 3) := by decide +kernel
theorem dX8_hung_20 : decode cX8_hung 20 = .ok (.iconst (-1), 1) := by decide +kernel
theorem dX8_hung_21 : decode cX8_hung 21 = .ok (.ireturn, 1) := by decide +kernel
theorem dX8_hung_22 : decode cX8_hung 22 = .ok (.iload_n 2, 1) := by decide +kernel
theorem dX8_hung_23 : decode cX8_hung 23 = .ok (.iconst 0, 1) := by decide +kernel
theorem dX8_hung_24 : decode cX8_hung 24 = .ok (.bipush 9, 2) := by decide +kernel
theorem dX8_hung_26 : decode cX8_hung 26 = .ok (.invokestatic 71, 3) := by decide +kernel
theorem dX8_hung_29 : decode cX8_hung 29 = .ok (.ifCond .eq 21, 3) := by decide +kernel
theorem dX8_hung_32 : decode cX8_hung 32 = .ok (.iload 6, 2) := by decide +kernel
theorem dX8_hung_34 : decode cX8_hung 34 = .ok (.iconst 0, 1) := by decide +kernel
theorem dX8_hung_35 : decode cX8_hung 35 = .ok (.iconst 2, 1) := by decide +kernel
theorem dX8_hung_36 : decode cX8_hung 36 = .ok (.invokestatic 71, 3) := by decide +kernel
theorem dX8_hung_39 : decode cX8_hung 39 = .ok (.ifCond .eq 11, 3) := by decide +kernel
theorem dX8_hung_42 : decode cX8_hung 42 = .ok (.iload 4, 2) := by decide +kernel
theorem dX8_hung_44 : decode cX8_hung 44 = .ok (.invokestatic 92, 3) := by decide +kernel
theorem dX8_hung_47 : decode cX8_hung 47 = .ok (.ifCond .ne 6, 3) := by decide +kernel
theorem dX8_hung_50 : decode cX8_hung 50 = .ok (.bipush (-2), 2) := by decide +kernel
theorem dX8_hung_52 : decode cX8_hung 52 = .ok (.ireturn, 1) := by decide +kernel
theorem dX8_hung_53 : decode cX8_hung 53 = .ok (.aload_n 0, 1) := by decide +kernel
theorem dX8_hung_54 : decode cX8_hung 54 = .ok (.iload_n 3, 1) := by decide +kernel
theorem dX8_hung_55 : decode cX8_hung 55 = .ok (.iload 4, 2) := by decide +kernel
theorem dX8_hung_57 : decode cX8_hung 57 = .ok (.iload 5, 2) := by decide +kernel
theorem dX8_hung_59 : decode cX8_hung 59 = .ok (.iconst 3, 1) := by decide +kernel
theorem dX8_hung_60 : decode cX8_hung 60 = .ok (.invokevirtual 95, 3) := by decide +kernel
theorem dX8_hung_63 : decode cX8_hung 63 = .ok (.istore 7, 2) := by decide +kernel
theorem dX8_hung_65 : decode cX8_hung 65 = .ok (.iload 7, 2) := by decide +kernel
theorem dX8_hung_67 : decode cX8_hung 67 = .ok (.ifCond .eq 10, 3) := by decide +kernel
theorem dX8_hung_70 : decode cX8_hung 70 = .ok (.aload_n 0, 1) := by decide +kernel
theorem dX8_hung_71 : decode cX8_hung 71 = .ok (.iload 7, 2) := by decide +kernel
theorem dX8_hung_73 : decode cX8_hung 73 = .ok (.invokevirtual 99, 3) := by decide +kernel
theorem dX8_hung_76 : decode cX8_hung 76 = .ok (.ireturn, 1) := by decide +kernel
theorem dX8_hung_77 : decode cX8_hung 77 = .ok (.iconst 0, 1) := by decide +kernel
theorem dX8_hung_78 : decode cX8_hung 78 = .ok (.istore 8, 2) := by decide +kernel
theorem dX8_hung_80 : decode cX8_hung 80 = .ok (.bipush (-9), 2) := by decide +kernel
theorem dX8_hung_82 : decode cX8_hung 82 = .ok (.istore 9, 2) := by decide +kernel
theorem dX8_hung_84 : decode cX8_hung 84 = .ok (.bipush (-9), 2) := by decide +kernel
theorem dX8_hung_86 : decode cX8_hung 86 = .ok (.istore 10, 2) := by decide +kernel
theorem dX8_hung_88 : decode cX8_hung 88 = .ok (.iconst 0, 1) := by decide +kernel
theorem dX8_hung_89 : decode cX8_hung 89 = .ok (.istore 11, 2) := by decide +kernel
theorem dX8_hung_91 : decode cX8_hung 91 = .ok (.iload 11, 2) := by decide +kernel
theorem dX8_hung_93 : decode cX8_hung 93 = .ok (.aload_n 0, 1) := by decide +kernel
theorem dX8_hung_94 : decode cX8_hung 94 = .ok (.getfield 112, 3) := by decide +kernel
theorem dX8_hung_97 : decode cX8_hung 97 = .ok (.if_icmp .gt 50, 3) := by decide +kernel
theorem dX8_hung_100 : decode cX8_hung 100 = .ok (.aload_n 0, 1) := by decide +kernel
theorem dX8_hung_101 : decode cX8_hung 101 = .ok (.iload_n 1, 1) := by decide +kernel
theorem dX8_hung_102 : decode cX8_hung 102 = .ok (.iload_n 2, 1) := by decide +kernel
theorem dX8_hung_103 : decode cX8_hung 103 = .ok (.iload 11, 2) := by decide +kernel
theorem dX8_hung_105 : decode cX8_hung 105 = .ok (.bipush 40, 2) := by decide +kernel
theorem dX8_hung_107 : decode cX8_hung 107 = .ok (.iload_n 3, 1) := by decide +kernel
theorem dX8_hung_108 : decode cX8_hung 108 = .ok (.imul, 1) := by decide +kernel
theorem dX8_hung_109 : decode cX8_hung 109 = .ok (.iload 5, 2) := by decide +kernel
theorem dX8_hung_111 : decode cX8_hung 111 = .ok (.iadd, 1) := by decide +kernel
theorem dX8_hung_112 : decode cX8_hung 112 = .ok (.invokevirtual 221, 3) := by decide +kernel
theorem dX8_hung_115 : decode cX8_hung 115 = .ok (.ifCond .eq 26, 3) := by decide +kernel
theorem dX8_hung_118 : decode cX8_hung 118 = .ok (.iinc 8 1, 3) := by decide +kernel
theorem dX8_hung_121 : decode cX8_hung 121 = .ok (.iload 9, 2) := by decide +kernel
theorem dX8_hung_123 : decode cX8_hung 123 = .ok (.bipush (-9), 2) := by decide +kernel
theorem dX8_hung_125 : decode cX8_hung 125 = .ok (.if_icmp .ne 8, 3) := by decide +kernel
theorem dX8_hung_128 : decode cX8_hung 128 = .ok (.iload 11, 2) := by decide +kernel
theorem dX8_hung_130 : decode cX8_hung 130 = .ok (.goto 5, 3) := by decide +kernel
theorem dX8_hung_133 : decode cX8_hung 133 = .ok (.iload 9, 2) := by decide +kernel
theorem dX8_hung_135 : decode cX8_hung 135 = .ok (.istore 9, 2) := by decide +kernel
theorem dX8_hung_137 : decode cX8_hung 137 = .ok (.iload 11, 2) := by decide +kernel
theorem dX8_hung_139 : decode cX8_hung 139 = .ok (.istore 10, 2) := by decide +kernel
theorem dX8_hung_141 : decode cX8_hung 141 = .ok (.iinc 11 1, 3) := by decide +kernel
theorem dX8_hung_144 : decode cX8_hung 144 = .ok (.goto (-53), 3) := by decide +kernel
theorem dX8_hung_147 : decode cX8_hung 147 = .ok (.iload 6, 2) := by decide +kernel
theorem dX8_hung_149 : decode cX8_hung 149 = .ok (.ifCond .ne 8, 3) := by decide +kernel
theorem dX8_hung_152 : decode cX8_hung 152 = .ok (.iload 8, 2) := by decide +kernel
theorem dX8_hung_154 : decode cX8_hung 154 = .ok (.goto 16, 3) := by decide +kernel
theorem dX8_hung_157 : decode cX8_hung 157 = .ok (.iload 6, 2) := by decide +kernel
theorem dX8_hung_159 : decode cX8_hung 159 = .ok (.iconst 1, 1) := by decide +kernel
theorem dX8_hung_160 : decode cX8_hung 160 = .ok (.if_icmp .ne 8, 3) := by decide +kernel
theorem dX8_hung_163 : decode cX8_hung 163 = .ok (.iload 9, 2) := by decide +kernel
theorem dX8_hung_165 : decode cX8_hung 165 = .ok (.goto 5, 3) := by decide +kernel
theorem dX8_hung_168 : decode cX8_hung 168 = .ok (.iload 10, 2) := by decide +kernel
theorem dX8_hung_170 : decode cX8_hung 170 = .ok (.ireturn, 1) := by decide +kernel
set_option maxRecDepth 20000 in
theorem ggX8_old_X8_isCoat : GoodIn wsX8_old wsX8_isCoat := goodIn_r _ [7, 8, 44, 45, 46, 47, 48, 49, 50, 51, 52, 53, 54, 55, 56, 57, 58, 59, 60, 61, 62, 63, 64, 65, 66, 67, 68, 69, 70, 71, 72, 73, 74, 75, 76, 77, 78] (by decide +kernel) (by decide +kernel)
set_option maxRecDepth 20000 in
theorem gX8_old_X8_isCoat : GoodIn wsX8_old (wsV RX8 137 RX8 yX8_isCoat wsX8_isCoat) := goodIn_app (goodIn_of _ (by decide +kernel)) ggX8_old_X8_isCoat
set_option maxRecDepth 20000 in
theorem ggX8_old_X8_isSheet : GoodIn wsX8_old wsX8_isSheet := goodIn_r _ [11, 12, 13, 6, 14] (by decide +kernel) (by decide +kernel)
set_option maxRecDepth 20000 in
theorem gX8_old_X8_isSheet : GoodIn wsX8_old (va_wsS RX8 88 yX8_isSheet wsX8_isSheet) := goodIn_app (goodIn_of _ (by decide +kernel)) ggX8_old_X8_isSheet
set_option maxRecDepth 20000 in
theorem ggX8_old_X8_within : GoodIn wsX8_old wsX8_within := goodIn_r _ [14] (by decide +kernel) (by decide +kernel)
set_option maxRecDepth 20000 in
theorem gX8_old_X8_within : GoodIn wsX8_old (va_wsS RX8 71 yX8_within wsX8_within) := goodIn_app (goodIn_of _ (by decide +kernel)) ggX8_old_X8_within
set_option maxRecDepth 20000 in
theorem ggX8_old_X8_isSort : GoodIn wsX8_old wsX8_isSort := goodIn_r _ [17, 12, 13, 6, 14] (by decide +kernel) (by decide +kernel)
set_option maxRecDepth 20000 in
theorem gX8_old_X8_isSort : GoodIn wsX8_old (va_wsS RX8 92 yX8_isSort wsX8_isSort) := goodIn_app (goodIn_of _ (by decide +kernel)) ggX8_old_X8_isSort
set_option maxRecDepth 20000 in
theorem ggX8_old_X8_against : GoodIn wsX8_old wsX8_against := goodIn_r _ [21, 22, 23, 44, 45, 46, 47, 48, 49, 50, 51, 52, 53, 54, 55, 56, 57, 58, 59, 60, 61, 62, 63, 64, 65, 66, 67, 68, 69, 70, 71, 72, 73, 74, 75, 76, 77, 78] (by decide +kernel) (by decide +kernel)
set_option maxRecDepth 20000 in
theorem gX8_old_X8_against : GoodIn wsX8_old (wsV RX8 95 RX8 yX8_against wsX8_against) := goodIn_app (goodIn_of _ (by decide +kernel)) ggX8_old_X8_against
set_option maxRecDepth 20000 in
theorem ggX8_old_X8_lost : GoodIn wsX8_old wsX8_lost := goodIn_r _ [27, 1, 2, 44, 45, 46, 47, 48, 49, 50, 51, 52, 53, 54, 55, 56, 57, 58, 59, 60, 61, 62, 63, 64, 65, 66, 67, 68, 69, 70, 71, 72, 73, 74, 75, 76, 77, 78] (by decide +kernel) (by decide +kernel)
set_option maxRecDepth 20000 in
theorem gX8_old_X8_lost : GoodIn wsX8_old (wsV RX8 225 RX8 yX8_lost wsX8_lost) := goodIn_app (goodIn_of _ (by decide +kernel)) ggX8_old_X8_lost
set_option maxRecDepth 20000 in
theorem ggX8_old_X8_isSo : GoodIn wsX8_old wsX8_isSo := goodIn_r _ [31, 32, 33, 34, 35, 6, 36, 37, 38, 39, 40, 41, 42, 43, 44, 45, 46, 47, 48, 49, 50, 51, 52, 53, 54, 55, 56, 57, 58, 59, 60, 61, 62, 63, 64, 65, 66, 67, 68, 69, 70, 71, 72, 73, 74, 75, 76, 77, 78] (by decide +kernel) (by decide +kernel)
set_option maxRecDepth 20000 in
theorem gX8_old_X8_isSo : GoodIn wsX8_old (wsV RX8 221 RX8 yX8_isSo wsX8_isSo) := goodIn_app (goodIn_of _ (by decide +kernel)) ggX8_old_X8_isSo
theorem dX8_old_0 : decode cX8_old 0 = .ok (.aload_n 0, 1) := by decide +kernel
theorem dX8_old_1 : decode cX8_old 1 = .ok (.iconst 0, 1) := by decide +kernel
theorem dX8_old_2 : decode cX8_old 2 = .ok (.putfield 65, 3) := by decide +kernel
theorem dX8_old_5 : decode cX8_old 5 = .ok (.aload_n 0, 1) := by decide +kernel
theorem dX8_old_6 : decode cX8_old 6 = .ok (.iload_n 1, 1) := by decide +kernel
theorem dX8_old_7 : decode cX8_old 7 = .ok (.invokevirtual 137, 3) := by decide +kernel
theorem dX8_old_10 : decode cX8_old 10 = .ok (.ifCond .eq 28, 3) := by decide +kernel
theorem dX8_old_13 : decode cX8_old 13 = .ok (.iload_n 3, 1) := by decide +kernel
theorem dX8_old_14 : decode cX8_old 14 = .ok (.invokestatic 88, 3) := by decide +kernel
theorem dX8_old_17 : decode cX8_old 17 = .ok (.ifCond .eq 21, 3) := by decide +kernel
theorem dX8_old_20 : decode cX8_old 20 = .ok (.iload_n 2, 1) := by decide +kernel
theorem dX8_old_21 : decode cX8_old 21 = .ok (.iconst 0, 1) := by decide +kernel
theorem dX8_old_22 : decode cX8_old 22 = .ok (.bipush 9, 2) := by decide +kernel
theorem dX8_old_24 : decode cX8_old 24 = .ok (.invokestatic 71, 3) := by decide +kernel
theorem dX8_old_27 : decode cX8_old 27 = .ok (.ifCond .eq 11, 3) := by decide +kernel
theorem dX8_old_30 : decode cX8_old 30 = .ok (.iload 4, 2) := by decide +kernel
theorem dX8_old_32 : decode cX8_old 32 = .ok (.invokestatic 92, 3) := by decide +kernel
theorem dX8_old_35 : decode cX8_old 35 = .ok (.ifCond .ne 7, 3) := by decide +kernel
theorem dX8_old_38 : decode cX8_old 38 = .ok (.ldc2_w 69, 3) := by decide +kernel
theorem dX8_old_41 : decode cX8_old 41 = .ok (.lreturn, 1) := by decide +kernel
theorem dX8_old_42 : decode cX8_old 42 = .ok (.aload_n 0, 1) := by decide +kernel
theorem dX8_old_43 : decode cX8_old 43 = .ok (.iload_n 3, 1) := by decide +kernel
theorem dX8_old_44 : decode cX8_old 44 = .ok (.iload 4, 2) := by decide +kernel
theorem dX8_old_46 : decode cX8_old 46 = .ok (.iload 5, 2) := by decide +kernel
theorem dX8_old_48 : decode cX8_old 48 = .ok (.iconst 3, 1) := by decide +kernel
theorem dX8_old_49 : decode cX8_old 49 = .ok (.invokevirtual 95, 3) := by decide +kernel
theorem dX8_old_52 : decode cX8_old 52 = .ok (.istore 6, 2) := by decide +kernel
theorem dX8_old_54 : decode cX8_old 54 = .ok (.iload 6, 2) := by decide +kernel
theorem dX8_old_56 : decode cX8_old 56 = .ok (.ifCond .eq 10, 3) := by decide +kernel
theorem dX8_old_59 : decode cX8_old 59 = .ok (.aload_n 0, 1) := by decide +kernel
theorem dX8_old_60 : decode cX8_old 60 = .ok (.iload 6, 2) := by decide +kernel
theorem dX8_old_62 : decode cX8_old 62 = .ok (.invokevirtual 225, 3) := by decide +kernel
theorem dX8_old_65 : decode cX8_old 65 = .ok (.lreturn, 1) := by decide +kernel
theorem dX8_old_66 : decode cX8_old 66 = .ok (.lconst 0, 1) := by decide +kernel
theorem dX8_old_67 : decode cX8_old 67 = .ok (.lstore 7, 2) := by decide +kernel
theorem dX8_old_69 : decode cX8_old 69 = .ok (.iconst 0, 1) := by decide +kernel
theorem dX8_old_70 : decode cX8_old 70 = .ok (.istore 9, 2) := by decide +kernel
theorem dX8_old_72 : decode cX8_old 72 = .ok (.iload 9, 2) := by decide +kernel
theorem dX8_old_74 : decode cX8_old 74 = .ok (.bipush 40, 2) := by decide +kernel
theorem dX8_old_76 : decode cX8_old 76 = .ok (.if_icmp .gt 40, 3) := by decide +kernel
theorem dX8_old_79 : decode cX8_old 79 = .ok (.lload 7, 2) := by decide +kernel
theorem dX8_old_81 : decode cX8_old 81 = .ok (.aload_n 0, 1) := by decide +kernel
theorem dX8_old_82 : decode cX8_old 82 = .ok (.iload_n 1, 1) := by decide +kernel
theorem dX8_old_83 : decode cX8_old 83 = .ok (.iload_n 2, 1) := by decide +kernel
theorem dX8_old_84 : decode cX8_old 84 = .ok (.iload 9, 2) := by decide +kernel
theorem dX8_old_86 : decode cX8_old 86 = .ok (.bipush 40, 2) := by decide +kernel
theorem dX8_old_88 : decode cX8_old 88 = .ok (.iload_n 3, 1) := by decide +kernel
theorem dX8_old_89 : decode cX8_old 89 = .ok (.imul, 1) := by decide +kernel
theorem dX8_old_90 : decode cX8_old 90 = .ok (.iload 5, 2) := by decide +kernel
theorem dX8_old_92 : decode cX8_old 92 = .ok (.iadd, 1) := by decide +kernel
theorem dX8_old_93 : decode cX8_old 93 = .ok (.invokevirtual 221, 3) := by decide +kernel
theorem dX8_old_96 : decode cX8_old 96 = .ok (.ifCond .eq 10, 3) := by decide +kernel
theorem dX8_old_99 : decode cX8_old 99 = .ok (.lconst 1, 1) := by decide +kernel
theorem dX8_old_100 : decode cX8_old 100 = .ok (.iload 9, 2) := by decide +kernel
theorem dX8_old_102 : decode cX8_old 102 = .ok (.lshl, 1) := by decide +kernel
theorem dX8_old_103 : decode cX8_old 103 = .ok (.goto 4, 3) := by decide +kernel
theorem dX8_old_106 : decode cX8_old 106 = .ok (.lconst 0, 1) := by decide +kernel
theorem dX8_old_107 : decode cX8_old 107 = .ok (.lor, 1) := by decide +kernel
theorem dX8_old_108 : decode cX8_old 108 = .ok (.lstore 7, 2) := by decide +kernel
theorem dX8_old_110 : decode cX8_old 110 = .ok (.iinc 9 1, 3) := by decide +kernel
theorem dX8_old_113 : decode cX8_old 113 = .ok (.goto (-41), 3) := by decide +kernel
theorem dX8_old_116 : decode cX8_old 116 = .ok (.lload 7, 2) := by decide +kernel
theorem dX8_old_118 : decode cX8_old 118 = .ok (.lreturn, 1) := by decide +kernel
set_option maxRecDepth 20000 in
theorem ggX8_sheet_X8_isSheet : GoodIn wsX8_sheet wsX8_isSheet := goodIn_r _ [8, 9, 10, 7, 11] (by decide +kernel) (by decide +kernel)
set_option maxRecDepth 20000 in
theorem gX8_sheet_X8_isSheet : GoodIn wsX8_sheet (va_wsS RX8 88 yX8_isSheet wsX8_isSheet) := goodIn_app (goodIn_of _ (by decide +kernel)) ggX8_sheet_X8_isSheet
set_option maxRecDepth 20000 in
theorem ggX8_sheet_X8_isSort : GoodIn wsX8_sheet wsX8_isSort := goodIn_r _ [14, 9, 10, 7, 11] (by decide +kernel) (by decide +kernel)
set_option maxRecDepth 20000 in
theorem gX8_sheet_X8_isSort : GoodIn wsX8_sheet (va_wsS RX8 92 yX8_isSort wsX8_isSort) := goodIn_app (goodIn_of _ (by decide +kernel)) ggX8_sheet_X8_isSort
set_option maxRecDepth 20000 in
theorem ggX8_sheet_X8_fails : GoodIn wsX8_sheet wsX8_fails := goodIn_r _ [18, 1, 19, 20, 21, 22, 23, 24, 25, 26, 27, 28, 29, 30, 31, 32, 33, 34, 35, 36, 37, 38, 39, 40, 41, 42, 43, 44, 45, 46, 47, 48, 49, 50, 51, 52, 53] (by decide +kernel) (by decide +kernel)
set_option maxRecDepth 20000 in
theorem gX8_sheet_X8_fails : GoodIn wsX8_sheet (wsV RX8 99 RX8 yX8_fails wsX8_fails) := goodIn_app (goodIn_of _ (by decide +kernel)) ggX8_sheet_X8_fails
theorem dX8_sheet_0 : decode cX8_sheet 0 = .ok (.aload_n 0, 1) := by decide +kernel
theorem dX8_sheet_1 : decode cX8_sheet 1 = .ok (.iconst 0, 1) := by decide +kernel
theorem dX8_sheet_2 : decode cX8_sheet 2 = .ok (.putfield 65, 3) := by decide +kernel
theorem dX8_sheet_5 : decode cX8_sheet 5 = .ok (.iload_n 1, 1) := by decide +kernel
theorem dX8_sheet_6 : decode cX8_sheet 6 = .ok (.invokestatic 88, 3) := by decide +kernel
theorem dX8_sheet_9 : decode cX8_sheet 9 = .ok (.ifCond .ne 5, 3) := by decide +kernel
theorem dX8_sheet_12 : decode cX8_sheet 12 = .ok (.iconst (-1), 1) := by decide +kernel
theorem dX8_sheet_13 : decode cX8_sheet 13 = .ok (.ireturn, 1) := by decide +kernel
theorem dX8_sheet_14 : decode cX8_sheet 14 = .ok (.iload_n 2, 1) := by decide +kernel
theorem dX8_sheet_15 : decode cX8_sheet 15 = .ok (.invokestatic 92, 3) := by decide +kernel
theorem dX8_sheet_18 : decode cX8_sheet 18 = .ok (.ifCond .eq 9, 3) := by decide +kernel
theorem dX8_sheet_21 : decode cX8_sheet 21 = .ok (.iload_n 3, 1) := by decide +kernel
theorem dX8_sheet_22 : decode cX8_sheet 22 = .ok (.bipush 40, 2) := by decide +kernel
theorem dX8_sheet_24 : decode cX8_sheet 24 = .ok (.if_icmp .le 6, 3) := by decide +kernel
theorem dX8_sheet_27 : decode cX8_sheet 27 = .ok (.bipush (-2), 2) := by decide +kernel
theorem dX8_sheet_29 : decode cX8_sheet 29 = .ok (.ireturn, 1) := by decide +kernel
theorem dX8_sheet_30 : decode cX8_sheet 30 = .ok (.iload_n 3, 1) := by decide +kernel
theorem dX8_sheet_31 : decode cX8_sheet 31 = .ok (.ifCond .ge 9, 3) := by decide +kernel
theorem dX8_sheet_34 : decode cX8_sheet 34 = .ok (.aload_n 0, 1) := by decide +kernel
theorem dX8_sheet_35 : decode cX8_sheet 35 = .ok (.iconst 4, 1) := by decide +kernel
theorem dX8_sheet_36 : decode cX8_sheet 36 = .ok (.invokevirtual 99, 3) := by decide +kernel
theorem dX8_sheet_39 : decode cX8_sheet 39 = .ok (.ireturn, 1) := by decide +kernel
theorem dX8_sheet_40 : decode cX8_sheet 40 = .ok (.aload_n 0, 1) := by decide +kernel
theorem dX8_sheet_41 : decode cX8_sheet 41 = .ok (.getfield 9, 3) := by decide +kernel
theorem dX8_sheet_44 : decode cX8_sheet 44 = .ok (.iload_n 1, 1) := by decide +kernel
theorem dX8_sheet_45 : decode cX8_sheet 45 = .ok (.iload_n 2, 1) := by decide +kernel
theorem dX8_sheet_46 : decode cX8_sheet 46 = .ok (.iastore, 1) := by decide +kernel
theorem dX8_sheet_47 : decode cX8_sheet 47 = .ok (.aload_n 0, 1) := by decide +kernel
theorem dX8_sheet_48 : decode cX8_sheet 48 = .ok (.getfield 13, 3) := by decide +kernel
theorem dX8_sheet_51 : decode cX8_sheet 51 = .ok (.iload_n 1, 1) := by decide +kernel
theorem dX8_sheet_52 : decode cX8_sheet 52 = .ok (.iload_n 3, 1) := by decide +kernel
theorem dX8_sheet_53 : decode cX8_sheet 53 = .ok (.iastore, 1) := by decide +kernel
theorem dX8_sheet_54 : decode cX8_sheet 54 = .ok (.iconst 0, 1) := by decide +kernel
theorem dX8_sheet_55 : decode cX8_sheet 55 = .ok (.istore 4, 2) := by decide +kernel
theorem dX8_sheet_57 : decode cX8_sheet 57 = .ok (.iload 4, 2) := by decide +kernel
theorem dX8_sheet_59 : decode cX8_sheet 59 = .ok (.bipush 40, 2) := by decide +kernel
theorem dX8_sheet_61 : decode cX8_sheet 61 = .ok (.if_icmp .ge 22, 3) := by decide +kernel
theorem dX8_sheet_64 : decode cX8_sheet 64 = .ok (.aload_n 0, 1) := by decide +kernel
theorem dX8_sheet_65 : decode cX8_sheet 65 = .ok (.getfield 16, 3) := by decide +kernel
theorem dX8_sheet_68 : decode cX8_sheet 68 = .ok (.bipush 40, 2) := by decide +kernel
theorem dX8_sheet_70 : decode cX8_sheet 70 = .ok (.iload_n 1, 1) := by decide +kernel
theorem dX8_sheet_71 : decode cX8_sheet 71 = .ok (.imul, 1) := by decide +kernel
theorem dX8_sheet_72 : decode cX8_sheet 72 = .ok (.iload 4, 2) := by decide +kernel
theorem dX8_sheet_74 : decode cX8_sheet 74 = .ok (.iadd, 1) := by decide +kernel
theorem dX8_sheet_75 : decode cX8_sheet 75 = .ok (.iconst 0, 1) := by decide +kernel
theorem dX8_sheet_76 : decode cX8_sheet 76 = .ok (.iastore, 1) := by decide +kernel
theorem dX8_sheet_77 : decode cX8_sheet 77 = .ok (.iinc 4 1, 3) := by decide +kernel
theorem dX8_sheet_80 : decode cX8_sheet 80 = .ok (.goto (-23), 3) := by decide +kernel
theorem dX8_sheet_83 : decode cX8_sheet 83 = .ok (.iconst 1, 1) := by decide +kernel
theorem dX8_sheet_84 : decode cX8_sheet 84 = .ok (.ireturn, 1) := by decide +kernel
set_option maxRecDepth 20000 in
theorem ggX8_lose_X8_isSheet : GoodIn wsX8_lose wsX8_isSheet := goodIn_r _ [5, 6, 7, 4, 8] (by decide +kernel) (by decide +kernel)
set_option maxRecDepth 20000 in
theorem gX8_lose_X8_isSheet : GoodIn wsX8_lose (va_wsS RX8 88 yX8_isSheet wsX8_isSheet) := goodIn_app (goodIn_of _ (by decide +kernel)) ggX8_lose_X8_isSheet
theorem dX8_lose_0 : decode cX8_lose 0 = .ok (.iload_n 1, 1) := by decide +kernel
theorem dX8_lose_1 : decode cX8_lose 1 = .ok (.invokestatic 88, 3) := by decide +kernel
theorem dX8_lose_4 : decode cX8_lose 4 = .ok (.ifCond .ne 5, 3) := by decide +kernel
theorem dX8_lose_7 : decode cX8_lose 7 = .ok (.iconst (-1), 1) := by decide +kernel
theorem dX8_lose_8 : decode cX8_lose 8 = .ok (.ireturn, 1) := by decide +kernel
theorem dX8_lose_9 : decode cX8_lose 9 = .ok (.aload_n 0, 1) := by decide +kernel
theorem dX8_lose_10 : decode cX8_lose 10 = .ok (.getfield 9, 3) := by decide +kernel
theorem dX8_lose_13 : decode cX8_lose 13 = .ok (.iload_n 1, 1) := by decide +kernel
theorem dX8_lose_14 : decode cX8_lose 14 = .ok (.iaload, 1) := by decide +kernel
theorem dX8_lose_15 : decode cX8_lose 15 = .ok (.bipush (-9), 2) := by decide +kernel
theorem dX8_lose_17 : decode cX8_lose 17 = .ok (.if_icmp .ne 7, 3) := by decide +kernel
theorem dX8_lose_20 : decode cX8_lose 20 = .ok (.iconst 0, 1) := by decide +kernel
theorem dX8_lose_21 : decode cX8_lose 21 = .ok (.goto 4, 3) := by decide +kernel
theorem dX8_lose_24 : decode cX8_lose 24 = .ok (.iconst 1, 1) := by decide +kernel
theorem dX8_lose_25 : decode cX8_lose 25 = .ok (.istore_n 2, 1) := by decide +kernel
theorem dX8_lose_26 : decode cX8_lose 26 = .ok (.aload_n 0, 1) := by decide +kernel
theorem dX8_lose_27 : decode cX8_lose 27 = .ok (.getfield 9, 3) := by decide +kernel
theorem dX8_lose_30 : decode cX8_lose 30 = .ok (.iload_n 1, 1) := by decide +kernel
theorem dX8_lose_31 : decode cX8_lose 31 = .ok (.bipush (-9), 2) := by decide +kernel
theorem dX8_lose_33 : decode cX8_lose 33 = .ok (.iastore, 1) := by decide +kernel
theorem dX8_lose_34 : decode cX8_lose 34 = .ok (.iload_n 2, 1) := by decide +kernel
theorem dX8_lose_35 : decode cX8_lose 35 = .ok (.ireturn, 1) := by decide +kernel
set_option maxRecDepth 20000 in
theorem ggX8_put_X8_isSheet : GoodIn wsX8_put wsX8_isSheet := goodIn_r _ [8, 9, 10, 7, 11] (by decide +kernel) (by decide +kernel)
set_option maxRecDepth 20000 in
theorem gX8_put_X8_isSheet : GoodIn wsX8_put (va_wsS RX8 88 yX8_isSheet wsX8_isSheet) := goodIn_app (goodIn_of _ (by decide +kernel)) ggX8_put_X8_isSheet
set_option maxRecDepth 20000 in
theorem ggX8_put_X8_fails : GoodIn wsX8_put wsX8_fails := goodIn_r _ [15, 1, 16, 17, 18, 19, 20, 21, 22, 23, 24, 25, 26, 27, 28, 29, 30, 31, 32, 33, 34, 35, 36, 37, 38, 39, 40, 41, 42, 43, 44, 45, 46, 47, 48, 49, 50] (by decide +kernel) (by decide +kernel)
set_option maxRecDepth 20000 in
theorem gX8_put_X8_fails : GoodIn wsX8_put (wsV RX8 99 RX8 yX8_fails wsX8_fails) := goodIn_app (goodIn_of _ (by decide +kernel)) ggX8_put_X8_fails
set_option maxRecDepth 20000 in
theorem ggX8_put_X8_within : GoodIn wsX8_put wsX8_within := goodIn_r _ [11] (by decide +kernel) (by decide +kernel)
set_option maxRecDepth 20000 in
theorem gX8_put_X8_within : GoodIn wsX8_put (va_wsS RX8 71 yX8_within wsX8_within) := goodIn_app (goodIn_of _ (by decide +kernel)) ggX8_put_X8_within
theorem dX8_put_0 : decode cX8_put 0 = .ok (.aload_n 0, 1) := by decide +kernel
theorem dX8_put_1 : decode cX8_put 1 = .ok (.iconst 0, 1) := by decide +kernel
theorem dX8_put_2 : decode cX8_put 2 = .ok (.putfield 65, 3) := by decide +kernel
theorem dX8_put_5 : decode cX8_put 5 = .ok (.iload_n 1, 1) := by decide +kernel
theorem dX8_put_6 : decode cX8_put 6 = .ok (.invokestatic 88, 3) := by decide +kernel
theorem dX8_put_9 : decode cX8_put 9 = .ok (.ifCond .ne 5, 3) := by decide +kernel
theorem dX8_put_12 : decode cX8_put 12 = .ok (.iconst (-1), 1) := by decide +kernel
theorem dX8_put_13 : decode cX8_put 13 = .ok (.ireturn, 1) := by decide +kernel
theorem dX8_put_14 : decode cX8_put 14 = .ok (.aload_n 0, 1) := by decide +kernel
theorem dX8_put_15 : decode cX8_put 15 = .ok (.getfield 9, 3) := by decide +kernel
theorem dX8_put_18 : decode cX8_put 18 = .ok (.iload_n 1, 1) := by decide +kernel
theorem dX8_put_19 : decode cX8_put 19 = .ok (.iaload, 1) := by decide +kernel
theorem dX8_put_20 : decode cX8_put 20 = .ok (.bipush (-9), 2) := by decide +kernel
theorem dX8_put_22 : decode cX8_put 22 = .ok (.if_icmp .ne 9, 3) := by decide +kernel
theorem dX8_put_25 : decode cX8_put 25 = .ok (.aload_n 0, 1) := by decide +kernel
theorem dX8_put_26 : decode cX8_put 26 = .ok (.iconst 1, 1) := by decide +kernel
theorem dX8_put_27 : decode cX8_put 27 = .ok (.invokevirtual 99, 3) := by decide +kernel
theorem dX8_put_30 : decode cX8_put 30 = .ok (.ireturn, 1) := by decide +kernel
theorem dX8_put_31 : decode cX8_put 31 = .ok (.iload_n 2, 1) := by decide +kernel
theorem dX8_put_32 : decode cX8_put 32 = .ok (.iconst 0, 1) := by decide +kernel
theorem dX8_put_33 : decode cX8_put 33 = .ok (.aload_n 0, 1) := by decide +kernel
theorem dX8_put_34 : decode cX8_put 34 = .ok (.getfield 13, 3) := by decide +kernel
theorem dX8_put_37 : decode cX8_put 37 = .ok (.iload_n 1, 1) := by decide +kernel
theorem dX8_put_38 : decode cX8_put 38 = .ok (.iaload, 1) := by decide +kernel
theorem dX8_put_39 : decode cX8_put 39 = .ok (.iconst 1, 1) := by decide +kernel
theorem dX8_put_40 : decode cX8_put 40 = .ok (.isub, 1) := by decide +kernel
theorem dX8_put_41 : decode cX8_put 41 = .ok (.invokestatic 71, 3) := by decide +kernel
theorem dX8_put_44 : decode cX8_put 44 = .ok (.ifCond .ne 9, 3) := by decide +kernel
theorem dX8_put_47 : decode cX8_put 47 = .ok (.aload_n 0, 1) := by decide +kernel
theorem dX8_put_48 : decode cX8_put 48 = .ok (.iconst 3, 1) := by decide +kernel
theorem dX8_put_49 : decode cX8_put 49 = .ok (.invokevirtual 99, 3) := by decide +kernel
theorem dX8_put_52 : decode cX8_put 52 = .ok (.ireturn, 1) := by decide +kernel
theorem dX8_put_53 : decode cX8_put 53 = .ok (.aload_n 0, 1) := by decide +kernel
theorem dX8_put_54 : decode cX8_put 54 = .ok (.getfield 16, 3) := by decide +kernel
theorem dX8_put_57 : decode cX8_put 57 = .ok (.bipush 40, 2) := by decide +kernel
theorem dX8_put_59 : decode cX8_put 59 = .ok (.iload_n 1, 1) := by decide +kernel
theorem dX8_put_60 : decode cX8_put 60 = .ok (.imul, 1) := by decide +kernel
theorem dX8_put_61 : decode cX8_put 61 = .ok (.iload_n 2, 1) := by decide +kernel
theorem dX8_put_62 : decode cX8_put 62 = .ok (.iadd, 1) := by decide +kernel
theorem dX8_put_63 : decode cX8_put 63 = .ok (.aload_n 0, 1) := by decide +kernel
theorem dX8_put_64 : decode cX8_put 64 = .ok (.getfield 9, 3) := by decide +kernel
theorem dX8_put_67 : decode cX8_put 67 = .ok (.iload_n 1, 1) := by decide +kernel
theorem dX8_put_68 : decode cX8_put 68 = .ok (.iaload, 1) := by decide +kernel
theorem dX8_put_69 : decode cX8_put 69 = .ok (.ifCond .ne 8, 3) := by decide +kernel
theorem dX8_put_72 : decode cX8_put 72 = .ok (.iload_n 3, 1) := by decide +kernel
theorem dX8_put_73 : decode cX8_put 73 = .ok (.i2b, 1) := by decide +kernel
theorem dX8_put_74 : decode cX8_put 74 = .ok (.goto 19, 3) := by decide +kernel
theorem dX8_put_77 : decode cX8_put 77 = .ok (.aload_n 0, 1) := by decide +kernel
theorem dX8_put_78 : decode cX8_put 78 = .ok (.getfield 9, 3) := by decide +kernel
theorem dX8_put_81 : decode cX8_put 81 = .ok (.iload_n 1, 1) := by decide +kernel
theorem dX8_put_82 : decode cX8_put 82 = .ok (.iaload, 1) := by decide +kernel
theorem dX8_put_83 : decode cX8_put 83 = .ok (.iconst 1, 1) := by decide +kernel
theorem dX8_put_84 : decode cX8_put 84 = .ok (.if_icmp .ne 8, 3) := by decide +kernel
theorem dX8_put_87 : decode cX8_put 87 = .ok (.iload_n 3, 1) := by decide +kernel
theorem dX8_put_88 : decode cX8_put 88 = .ok (.i2s, 1) := by decide +kernel
theorem dX8_put_89 : decode cX8_put 89 = .ok (.goto 4, 3) := by decide +kernel
theorem dX8_put_92 : decode cX8_put 92 = .ok (.iload_n 3, 1) := by decide +kernel
theorem dX8_put_93 : decode cX8_put 93 = .ok (.iastore, 1) := by decide +kernel
theorem dX8_put_94 : decode cX8_put 94 = .ok (.iconst 1, 1) := by decide +kernel
theorem dX8_put_95 : decode cX8_put 95 = .ok (.ireturn, 1) := by decide +kernel
set_option maxRecDepth 20000 in
theorem ggX8_cell_X8_isSheet : GoodIn wsX8_cell wsX8_isSheet := goodIn_r _ [9, 10, 11, 8, 12] (by decide +kernel) (by decide +kernel)
set_option maxRecDepth 20000 in
theorem gX8_cell_X8_isSheet : GoodIn wsX8_cell (va_wsS RX8 88 yX8_isSheet wsX8_isSheet) := goodIn_app (goodIn_of _ (by decide +kernel)) ggX8_cell_X8_isSheet
set_option maxRecDepth 20000 in
theorem ggX8_cell_X8_isSort : GoodIn wsX8_cell wsX8_isSort := goodIn_r _ [15, 10, 11, 8, 12] (by decide +kernel) (by decide +kernel)
set_option maxRecDepth 20000 in
theorem gX8_cell_X8_isSort : GoodIn wsX8_cell (va_wsS RX8 92 yX8_isSort wsX8_isSort) := goodIn_app (goodIn_of _ (by decide +kernel)) ggX8_cell_X8_isSort
set_option maxRecDepth 20000 in
theorem ggX8_cell_X8_lost : GoodIn wsX8_cell wsX8_lost := goodIn_r _ [19, 1, 2, 20, 21, 22, 23, 24, 25, 26, 27, 28, 29, 30, 31, 32, 33, 34, 35, 36, 37, 38, 39, 40, 41, 42, 43, 44, 45, 46, 47, 48, 49, 50, 51, 52, 53, 54] (by decide +kernel) (by decide +kernel)
set_option maxRecDepth 20000 in
theorem gX8_cell_X8_lost : GoodIn wsX8_cell (wsV RX8 225 RX8 yX8_lost wsX8_lost) := goodIn_app (goodIn_of _ (by decide +kernel)) ggX8_cell_X8_lost
set_option maxRecDepth 20000 in
theorem ggX8_cell_X8_within : GoodIn wsX8_cell wsX8_within := goodIn_r _ [12] (by decide +kernel) (by decide +kernel)
set_option maxRecDepth 20000 in
theorem gX8_cell_X8_within : GoodIn wsX8_cell (va_wsS RX8 71 yX8_within wsX8_within) := goodIn_app (goodIn_of _ (by decide +kernel)) ggX8_cell_X8_within
theorem dX8_cell_0 : decode cX8_cell 0 = .ok (.aload_n 0, 1) := by decide +kernel
theorem dX8_cell_1 : decode cX8_cell 1 = .ok (.iconst 0, 1) := by decide +kernel
theorem dX8_cell_2 : decode cX8_cell 2 = .ok (.putfield 65, 3) := by decide +kernel
theorem dX8_cell_5 : decode cX8_cell 5 = .ok (.iload_n 1, 1) := by decide +kernel
theorem dX8_cell_6 : decode cX8_cell 6 = .ok (.invokestatic 88, 3) := by decide +kernel
theorem dX8_cell_9 : decode cX8_cell 9 = .ok (.ifCond .eq 10, 3) := by decide +kernel
theorem dX8_cell_12 : decode cX8_cell 12 = .ok (.iload_n 3, 1) := by decide +kernel
theorem dX8_cell_13 : decode cX8_cell 13 = .ok (.invokestatic 92, 3) := by decide +kernel
theorem dX8_cell_16 : decode cX8_cell 16 = .ok (.ifCond .ne 7, 3) := by decide +kernel
theorem dX8_cell_19 : decode cX8_cell 19 = .ok (.ldc2_w 69, 3) := by decide +kernel
theorem dX8_cell_22 : decode cX8_cell 22 = .ok (.lreturn, 1) := by decide +kernel
theorem dX8_cell_23 : decode cX8_cell 23 = .ok (.aload_n 0, 1) := by decide +kernel
theorem dX8_cell_24 : decode cX8_cell 24 = .ok (.getfield 9, 3) := by decide +kernel
theorem dX8_cell_27 : decode cX8_cell 27 = .ok (.iload_n 1, 1) := by decide +kernel
theorem dX8_cell_28 : decode cX8_cell 28 = .ok (.iaload, 1) := by decide +kernel
theorem dX8_cell_29 : decode cX8_cell 29 = .ok (.bipush (-9), 2) := by decide +kernel
theorem dX8_cell_31 : decode cX8_cell 31 = .ok (.if_icmp .eq 19, 3) := by decide +kernel
theorem dX8_cell_34 : decode cX8_cell 34 = .ok (.aload_n 0, 1) := by decide +kernel
theorem dX8_cell_35 : decode cX8_cell 35 = .ok (.getfield 9, 3) := by decide +kernel
theorem dX8_cell_38 : decode cX8_cell 38 = .ok (.iload_n 1, 1) := by decide +kernel
theorem dX8_cell_39 : decode cX8_cell 39 = .ok (.iaload, 1) := by decide +kernel
theorem dX8_cell_40 : decode cX8_cell 40 = .ok (.iload_n 3, 1) := by decide +kernel
theorem dX8_cell_41 : decode cX8_cell 41 = .ok (.if_icmp .eq 9, 3) := by decide +kernel
theorem dX8_cell_44 : decode cX8_cell 44 = .ok (.aload_n 0, 1) := by decide +kernel
theorem dX8_cell_45 : decode cX8_cell 45 = .ok (.iconst 2, 1) := by decide +kernel
theorem dX8_cell_46 : decode cX8_cell 46 = .ok (.invokevirtual 225, 3) := by decide +kernel
theorem dX8_cell_49 : decode cX8_cell 49 = .ok (.lreturn, 1) := by decide +kernel
theorem dX8_cell_50 : decode cX8_cell 50 = .ok (.aload_n 0, 1) := by decide +kernel
theorem dX8_cell_51 : decode cX8_cell 51 = .ok (.getfield 9, 3) := by decide +kernel
theorem dX8_cell_54 : decode cX8_cell 54 = .ok (.iload_n 1, 1) := by decide +kernel
theorem dX8_cell_55 : decode cX8_cell 55 = .ok (.iaload, 1) := by decide +kernel
theorem dX8_cell_56 : decode cX8_cell 56 = .ok (.bipush (-9), 2) := by decide +kernel
theorem dX8_cell_58 : decode cX8_cell 58 = .ok (.if_icmp .ne 9, 3) := by decide +kernel
theorem dX8_cell_61 : decode cX8_cell 61 = .ok (.aload_n 0, 1) := by decide +kernel
theorem dX8_cell_62 : decode cX8_cell 62 = .ok (.iconst 1, 1) := by decide +kernel
theorem dX8_cell_63 : decode cX8_cell 63 = .ok (.invokevirtual 225, 3) := by decide +kernel
theorem dX8_cell_66 : decode cX8_cell 66 = .ok (.lreturn, 1) := by decide +kernel
theorem dX8_cell_67 : decode cX8_cell 67 = .ok (.iload_n 2, 1) := by decide +kernel
theorem dX8_cell_68 : decode cX8_cell 68 = .ok (.iconst 0, 1) := by decide +kernel
theorem dX8_cell_69 : decode cX8_cell 69 = .ok (.aload_n 0, 1) := by decide +kernel
theorem dX8_cell_70 : decode cX8_cell 70 = .ok (.getfield 13, 3) := by decide +kernel
theorem dX8_cell_73 : decode cX8_cell 73 = .ok (.iload_n 1, 1) := by decide +kernel
theorem dX8_cell_74 : decode cX8_cell 74 = .ok (.iaload, 1) := by decide +kernel
theorem dX8_cell_75 : decode cX8_cell 75 = .ok (.iconst 1, 1) := by decide +kernel
theorem dX8_cell_76 : decode cX8_cell 76 = .ok (.isub, 1) := by decide +kernel
theorem dX8_cell_77 : decode cX8_cell 77 = .ok (.invokestatic 71, 3) := by decide +kernel
theorem dX8_cell_80 : decode cX8_cell 80 = .ok (.ifCond .ne 9, 3) := by decide +kernel
theorem dX8_cell_83 : decode cX8_cell 83 = .ok (.aload_n 0, 1) := by decide +kernel
theorem dX8_cell_84 : decode cX8_cell 84 = .ok (.iconst 3, 1) := by decide +kernel
theorem dX8_cell_85 : decode cX8_cell 85 = .ok (.invokevirtual 225, 3) := by decide +kernel
theorem dX8_cell_88 : decode cX8_cell 88 = .ok (.lreturn, 1) := by decide +kernel
theorem dX8_cell_89 : decode cX8_cell 89 = .ok (.aload_n 0, 1) := by decide +kernel
theorem dX8_cell_90 : decode cX8_cell 90 = .ok (.getfield 16, 3) := by decide +kernel
theorem dX8_cell_93 : decode cX8_cell 93 = .ok (.bipush 40, 2) := by decide +kernel
theorem dX8_cell_95 : decode cX8_cell 95 = .ok (.iload_n 1, 1) := by decide +kernel
theorem dX8_cell_96 : decode cX8_cell 96 = .ok (.imul, 1) := by decide +kernel
theorem dX8_cell_97 : decode cX8_cell 97 = .ok (.iload_n 2, 1) := by decide +kernel
theorem dX8_cell_98 : decode cX8_cell 98 = .ok (.iadd, 1) := by decide +kernel
theorem dX8_cell_99 : decode cX8_cell 99 = .ok (.iaload, 1) := by decide +kernel
theorem dX8_cell_100 : decode cX8_cell 100 = .ok (.i2l, 1) := by decide +kernel
theorem dX8_cell_101 : decode cX8_cell 101 = .ok (.lreturn, 1) := by decide +kernel
set_option maxRecDepth 20000 in
theorem ggX8_copy_X8_isSheet : GoodIn wsX8_copy wsX8_isSheet := goodIn_r _ [8, 9, 10, 7, 11] (by decide +kernel) (by decide +kernel)
set_option maxRecDepth 20000 in
theorem gX8_copy_X8_isSheet : GoodIn wsX8_copy (va_wsS RX8 88 yX8_isSheet wsX8_isSheet) := goodIn_app (goodIn_of _ (by decide +kernel)) ggX8_copy_X8_isSheet
set_option maxRecDepth 20000 in
theorem ggX8_copy_X8_fails : GoodIn wsX8_copy wsX8_fails := goodIn_r _ [15, 1, 16, 17, 18, 19, 20, 21, 22, 23, 24, 25, 26, 27, 28, 29, 30, 31, 32, 33, 34, 35, 36, 37, 38, 39, 40, 41, 42, 43, 44, 45, 46, 47, 48, 49, 50] (by decide +kernel) (by decide +kernel)
set_option maxRecDepth 20000 in
theorem gX8_copy_X8_fails : GoodIn wsX8_copy (wsV RX8 99 RX8 yX8_fails wsX8_fails) := goodIn_app (goodIn_of _ (by decide +kernel)) ggX8_copy_X8_fails
theorem dX8_copy_0 : decode cX8_copy 0 = .ok (.aload_n 0, 1) := by decide +kernel
theorem dX8_copy_1 : decode cX8_copy 1 = .ok (.iconst 0, 1) := by decide +kernel
theorem dX8_copy_2 : decode cX8_copy 2 = .ok (.putfield 65, 3) := by decide +kernel
theorem dX8_copy_5 : decode cX8_copy 5 = .ok (.iload_n 1, 1) := by decide +kernel
theorem dX8_copy_6 : decode cX8_copy 6 = .ok (.invokestatic 88, 3) := by decide +kernel
theorem dX8_copy_9 : decode cX8_copy 9 = .ok (.ifCond .eq 10, 3) := by decide +kernel
theorem dX8_copy_12 : decode cX8_copy 12 = .ok (.iload_n 3, 1) := by decide +kernel
theorem dX8_copy_13 : decode cX8_copy 13 = .ok (.invokestatic 88, 3) := by decide +kernel
theorem dX8_copy_16 : decode cX8_copy 16 = .ok (.ifCond .ne 5, 3) := by decide +kernel
theorem dX8_copy_19 : decode cX8_copy 19 = .ok (.iconst (-1), 1) := by decide +kernel
theorem dX8_copy_20 : decode cX8_copy 20 = .ok (.ireturn, 1) := by decide +kernel
theorem dX8_copy_21 : decode cX8_copy 21 = .ok (.aload_n 0, 1) := by decide +kernel
theorem dX8_copy_22 : decode cX8_copy 22 = .ok (.getfield 9, 3) := by decide +kernel
theorem dX8_copy_25 : decode cX8_copy 25 = .ok (.iload_n 1, 1) := by decide +kernel
theorem dX8_copy_26 : decode cX8_copy 26 = .ok (.iaload, 1) := by decide +kernel
theorem dX8_copy_27 : decode cX8_copy 27 = .ok (.bipush (-9), 2) := by decide +kernel
theorem dX8_copy_29 : decode cX8_copy 29 = .ok (.if_icmp .eq 14, 3) := by decide +kernel
theorem dX8_copy_32 : decode cX8_copy 32 = .ok (.aload_n 0, 1) := by decide +kernel
theorem dX8_copy_33 : decode cX8_copy 33 = .ok (.getfield 9, 3) := by decide +kernel
theorem dX8_copy_36 : decode cX8_copy 36 = .ok (.iload_n 3, 1) := by decide +kernel
theorem dX8_copy_37 : decode cX8_copy 37 = .ok (.iaload, 1) := by decide +kernel
theorem dX8_copy_38 : decode cX8_copy 38 = .ok (.bipush (-9), 2) := by decide +kernel
theorem dX8_copy_40 : decode cX8_copy 40 = .ok (.if_icmp .ne 9, 3) := by decide +kernel
theorem dX8_copy_43 : decode cX8_copy 43 = .ok (.aload_n 0, 1) := by decide +kernel
theorem dX8_copy_44 : decode cX8_copy 44 = .ok (.iconst 1, 1) := by decide +kernel
theorem dX8_copy_45 : decode cX8_copy 45 = .ok (.invokevirtual 99, 3) := by decide +kernel
theorem dX8_copy_48 : decode cX8_copy 48 = .ok (.ireturn, 1) := by decide +kernel
theorem dX8_copy_49 : decode cX8_copy 49 = .ok (.aload_n 0, 1) := by decide +kernel
theorem dX8_copy_50 : decode cX8_copy 50 = .ok (.getfield 9, 3) := by decide +kernel
theorem dX8_copy_53 : decode cX8_copy 53 = .ok (.iload_n 1, 1) := by decide +kernel
theorem dX8_copy_54 : decode cX8_copy 54 = .ok (.iaload, 1) := by decide +kernel
theorem dX8_copy_55 : decode cX8_copy 55 = .ok (.aload_n 0, 1) := by decide +kernel
theorem dX8_copy_56 : decode cX8_copy 56 = .ok (.getfield 9, 3) := by decide +kernel
theorem dX8_copy_59 : decode cX8_copy 59 = .ok (.iload_n 3, 1) := by decide +kernel
theorem dX8_copy_60 : decode cX8_copy 60 = .ok (.iaload, 1) := by decide +kernel
theorem dX8_copy_61 : decode cX8_copy 61 = .ok (.if_icmp .eq 9, 3) := by decide +kernel
theorem dX8_copy_64 : decode cX8_copy 64 = .ok (.aload_n 0, 1) := by decide +kernel
theorem dX8_copy_65 : decode cX8_copy 65 = .ok (.iconst 2, 1) := by decide +kernel
theorem dX8_copy_66 : decode cX8_copy 66 = .ok (.invokevirtual 99, 3) := by decide +kernel
theorem dX8_copy_69 : decode cX8_copy 69 = .ok (.ireturn, 1) := by decide +kernel
theorem dX8_copy_70 : decode cX8_copy 70 = .ok (.iload_n 2, 1) := by decide +kernel
theorem dX8_copy_71 : decode cX8_copy 71 = .ok (.ifCond .lt 38, 3) := by decide +kernel
theorem dX8_copy_74 : decode cX8_copy 74 = .ok (.iload 4, 2) := by decide +kernel
theorem dX8_copy_76 : decode cX8_copy 76 = .ok (.ifCond .lt 33, 3) := by decide +kernel
theorem dX8_copy_79 : decode cX8_copy 79 = .ok (.iload 5, 2) := by decide +kernel
theorem dX8_copy_81 : decode cX8_copy 81 = .ok (.ifCond .lt 28, 3) := by decide +kernel
theorem dX8_copy_84 : decode cX8_copy 84 = .ok (.iload_n 2, 1) := by decide +kernel
theorem dX8_copy_85 : decode cX8_copy 85 = .ok (.aload_n 0, 1) := by decide +kernel
theorem dX8_copy_86 : decode cX8_copy 86 = .ok (.getfield 13, 3) := by decide +kernel
theorem dX8_copy_89 : decode cX8_copy 89 = .ok (.iload_n 1, 1) := by decide +kernel
theorem dX8_copy_90 : decode cX8_copy 90 = .ok (.iaload, 1) := by decide +kernel
theorem dX8_copy_91 : decode cX8_copy 91 = .ok (.if_icmp .gt 18, 3) := by decide +kernel
theorem dX8_copy_94 : decode cX8_copy 94 = .ok (.iload 4, 2) := by decide +kernel
theorem dX8_copy_96 : decode cX8_copy 96 = .ok (.aload_n 0, 1) := by decide +kernel
theorem dX8_copy_97 : decode cX8_copy 97 = .ok (.getfield 13, 3) := by decide +kernel
theorem dX8_copy_100 : decode cX8_copy 100 = .ok (.iload_n 3, 1) := by decide +kernel
theorem dX8_copy_101 : decode cX8_copy 101 = .ok (.iaload, 1) := by decide +kernel
theorem dX8_copy_102 : decode cX8_copy 102 = .ok (.if_icmp .gt 7, 3) := by decide +kernel
theorem dX8_copy_105 : decode cX8_copy 105 = .ok (.iconst 1, 1) := by decide +kernel
theorem dX8_copy_106 : decode cX8_copy 106 = .ok (.goto 4, 3) := by decide +kernel
theorem dX8_copy_109 : decode cX8_copy 109 = .ok (.iconst 0, 1) := by decide +kernel
theorem dX8_copy_110 : decode cX8_copy 110 = .ok (.istore 6, 2) := by decide +kernel
theorem dX8_copy_112 : decode cX8_copy 112 = .ok (.iload 6, 2) := by decide +kernel
theorem dX8_copy_114 : decode cX8_copy 114 = .ok (.ifCond .eq 30, 3) := by decide +kernel
theorem dX8_copy_117 : decode cX8_copy 117 = .ok (.iload 5, 2) := by decide +kernel
theorem dX8_copy_119 : decode cX8_copy 119 = .ok (.aload_n 0, 1) := by decide +kernel
theorem dX8_copy_120 : decode cX8_copy 120 = .ok (.getfield 13, 3) := by decide +kernel
theorem dX8_copy_123 : decode cX8_copy 123 = .ok (.iload_n 1, 1) := by decide +kernel
theorem dX8_copy_124 : decode cX8_copy 124 = .ok (.iaload, 1) := by decide +kernel
theorem dX8_copy_125 : decode cX8_copy 125 = .ok (.iload_n 2, 1) := by decide +kernel
theorem dX8_copy_126 : decode cX8_copy 126 = .ok (.isub, 1) := by decide +kernel
theorem dX8_copy_127 : decode cX8_copy 127 = .ok (.if_icmp .gt 17, 3) := by decide +kernel
theorem dX8_copy_130 : decode cX8_copy 130 = .ok (.iload 5, 2) := by decide +kernel
theorem dX8_copy_132 : decode cX8_copy 132 = .ok (.aload_n 0, 1) := by decide +kernel
theorem dX8_copy_133 : decode cX8_copy 133 = .ok (.getfield 13, 3) := by decide +kernel
theorem dX8_copy_136 : decode cX8_copy 136 = .ok (.iload_n 3, 1) := by decide +kernel
theorem dX8_copy_137 : decode cX8_copy 137 = .ok (.iaload, 1) := by decide +kernel
theorem dX8_copy_138 : decode cX8_copy 138 = .ok (.iload 4, 2) := by decide +kernel
theorem dX8_copy_140 : decode cX8_copy 140 = .ok (.isub, 1) := by decide +kernel
theorem dX8_copy_141 : decode cX8_copy 141 = .ok (.if_icmp .le 9, 3) := by decide +kernel
theorem dX8_copy_144 : decode cX8_copy 144 = .ok (.aload_n 0, 1) := by decide +kernel
theorem dX8_copy_145 : decode cX8_copy 145 = .ok (.iconst 3, 1) := by decide +kernel
theorem dX8_copy_146 : decode cX8_copy 146 = .ok (.invokevirtual 99, 3) := by decide +kernel
theorem dX8_copy_149 : decode cX8_copy 149 = .ok (.ireturn, 1) := by decide +kernel
theorem dX8_copy_150 : decode cX8_copy 150 = .ok (.iload_n 2, 1) := by decide +kernel
theorem dX8_copy_151 : decode cX8_copy 151 = .ok (.iload 4, 2) := by decide +kernel
theorem dX8_copy_153 : decode cX8_copy 153 = .ok (.if_icmp .ge 7, 3) := by decide +kernel
theorem dX8_copy_156 : decode cX8_copy 156 = .ok (.iconst 1, 1) := by decide +kernel
theorem dX8_copy_157 : decode cX8_copy 157 = .ok (.goto 4, 3) := by decide +kernel
theorem dX8_copy_160 : decode cX8_copy 160 = .ok (.iconst 0, 1) := by decide +kernel
theorem dX8_copy_161 : decode cX8_copy 161 = .ok (.istore 7, 2) := by decide +kernel
theorem dX8_copy_163 : decode cX8_copy 163 = .ok (.iconst 0, 1) := by decide +kernel
theorem dX8_copy_164 : decode cX8_copy 164 = .ok (.istore 8, 2) := by decide +kernel
theorem dX8_copy_166 : decode cX8_copy 166 = .ok (.iload 8, 2) := by decide +kernel
theorem dX8_copy_168 : decode cX8_copy 168 = .ok (.iload 5, 2) := by decide +kernel
theorem dX8_copy_170 : decode cX8_copy 170 = .ok (.if_icmp .ge 57, 3) := by decide +kernel
theorem dX8_copy_173 : decode cX8_copy 173 = .ok (.iload 7, 2) := by decide +kernel
theorem dX8_copy_175 : decode cX8_copy 175 = .ok (.ifCond .eq 13, 3) := by decide +kernel
theorem dX8_copy_178 : decode cX8_copy 178 = .ok (.iload 5, 2) := by decide +kernel
theorem dX8_copy_180 : decode cX8_copy 180 = .ok (.iconst 1, 1) := by decide +kernel
theorem dX8_copy_181 : decode cX8_copy 181 = .ok (.isub, 1) := by decide +kernel
theorem dX8_copy_182 : decode cX8_copy 182 = .ok (.iload 8, 2) := by decide +kernel
theorem dX8_copy_184 : decode cX8_copy 184 = .ok (.isub, 1) := by decide +kernel
theorem dX8_copy_185 : decode cX8_copy 185 = .ok (.goto 5, 3) := by decide +kernel
theorem dX8_copy_188 : decode cX8_copy 188 = .ok (.iload 8, 2) := by decide +kernel
theorem dX8_copy_190 : decode cX8_copy 190 = .ok (.istore 9, 2) := by decide +kernel
theorem dX8_copy_192 : decode cX8_copy 192 = .ok (.aload_n 0, 1) := by decide +kernel
theorem dX8_copy_193 : decode cX8_copy 193 = .ok (.getfield 16, 3) := by decide +kernel
theorem dX8_copy_196 : decode cX8_copy 196 = .ok (.bipush 40, 2) := by decide +kernel
theorem dX8_copy_198 : decode cX8_copy 198 = .ok (.iload_n 3, 1) := by decide +kernel
theorem dX8_copy_199 : decode cX8_copy 199 = .ok (.imul, 1) := by decide +kernel
theorem dX8_copy_200 : decode cX8_copy 200 = .ok (.iload 4, 2) := by decide +kernel
theorem dX8_copy_202 : decode cX8_copy 202 = .ok (.iadd, 1) := by decide +kernel
theorem dX8_copy_203 : decode cX8_copy 203 = .ok (.iload 9, 2) := by decide +kernel
theorem dX8_copy_205 : decode cX8_copy 205 = .ok (.iadd, 1) := by decide +kernel
theorem dX8_copy_206 : decode cX8_copy 206 = .ok (.aload_n 0, 1) := by decide +kernel
theorem dX8_copy_207 : decode cX8_copy 207 = .ok (.getfield 16, 3) := by decide +kernel
theorem dX8_copy_210 : decode cX8_copy 210 = .ok (.bipush 40, 2) := by decide +kernel
theorem dX8_copy_212 : decode cX8_copy 212 = .ok (.iload_n 1, 1) := by decide +kernel
theorem dX8_copy_213 : decode cX8_copy 213 = .ok (.imul, 1) := by decide +kernel
theorem dX8_copy_214 : decode cX8_copy 214 = .ok (.iload_n 2, 1) := by decide +kernel
theorem dX8_copy_215 : decode cX8_copy 215 = .ok (.iadd, 1) := by decide +kernel
theorem dX8_copy_216 : decode cX8_copy 216 = .ok (.iload 9, 2) := by decide +kernel
theorem dX8_copy_218 : decode cX8_copy 218 = .ok (.iadd, 1) := by decide +kernel
theorem dX8_copy_219 : decode cX8_copy 219 = .ok (.iaload, 1) := by decide +kernel
theorem dX8_copy_220 : decode cX8_copy 220 = .ok (.iastore, 1) := by decide +kernel
theorem dX8_copy_221 : decode cX8_copy 221 = .ok (.iinc 8 1, 3) := by decide +kernel
theorem dX8_copy_224 : decode cX8_copy 224 = .ok (.goto (-58), 3) := by decide +kernel
theorem dX8_copy_227 : decode cX8_copy 227 = .ok (.iload 5, 2) := by decide +kernel
theorem dX8_copy_229 : decode cX8_copy 229 = .ok (.ireturn, 1) := by decide +kernel
theorem dX8_begins_0 : decode cX8_begins 0 = .ok (.aload_n 0, 1) := by decide +kernel
theorem dX8_begins_1 : decode cX8_begins 1 = .ok (.bipush 31, 2) := by decide +kernel
theorem dX8_begins_3 : decode cX8_begins 3 = .ok (.aload_n 0, 1) := by decide +kernel
theorem dX8_begins_4 : decode cX8_begins 4 = .ok (.getfield 229, 3) := by decide +kernel
theorem dX8_begins_7 : decode cX8_begins 7 = .ok (.imul, 1) := by decide +kernel
theorem dX8_begins_8 : decode cX8_begins 8 = .ok (.iload_n 1, 1) := by decide +kernel
theorem dX8_begins_9 : decode cX8_begins 9 = .ok (.iadd, 1) := by decide +kernel
theorem dX8_begins_10 : decode cX8_begins 10 = .ok (.putfield 229, 3) := by decide +kernel
theorem dX8_begins_13 : decode cX8_begins 13 = .ok (.return_, 1) := by decide +kernel
set_option maxRecDepth 20000 in
theorem ggX8_tell_X8_isCoat : GoodIn wsX8_tell wsX8_isCoat := goodIn_r _ [7, 8, 14, 15, 16, 17, 18, 19, 20, 21, 22, 23, 24, 25, 26, 27, 28, 29, 30, 31, 32, 33, 34, 35, 36, 37, 38, 39, 40, 41, 42, 43, 44, 45, 46, 47, 48] (by decide +kernel) (by decide +kernel)
set_option maxRecDepth 20000 in
theorem gX8_tell_X8_isCoat : GoodIn wsX8_tell (wsV RX8 137 RX8 yX8_isCoat wsX8_isCoat) := goodIn_app (goodIn_of _ (by decide +kernel)) ggX8_tell_X8_isCoat
set_option maxRecDepth 20000 in
theorem ggX8_tell_X8_begins : GoodIn wsX8_tell wsX8_begins := goodIn_r _ [12, 13, 14, 15, 16, 17, 18, 19, 20, 21, 22, 23, 24, 25, 26, 27, 28, 29, 30, 31, 32, 33, 34, 35, 36, 37, 38, 39, 40, 41, 42, 43, 44, 45, 46, 47, 48] (by decide +kernel) (by decide +kernel)
set_option maxRecDepth 20000 in
theorem gX8_tell_X8_begins : GoodIn wsX8_tell (wsV RX8 232 RX8 yX8_begins wsX8_begins) := goodIn_app (goodIn_of _ (by decide +kernel)) ggX8_tell_X8_begins
theorem dX8_tell_0 : decode cX8_tell 0 = .ok (.aload_n 0, 1) := by decide +kernel
theorem dX8_tell_1 : decode cX8_tell 1 = .ok (.iload_n 1, 1) := by decide +kernel
theorem dX8_tell_2 : decode cX8_tell 2 = .ok (.invokevirtual 137, 3) := by decide +kernel
theorem dX8_tell_5 : decode cX8_tell 5 = .ok (.ifCond .ne 5, 3) := by decide +kernel
theorem dX8_tell_8 : decode cX8_tell 8 = .ok (.iconst (-1), 1) := by decide +kernel
theorem dX8_tell_9 : decode cX8_tell 9 = .ok (.ireturn, 1) := by decide +kernel
theorem dX8_tell_10 : decode cX8_tell 10 = .ok (.aload_n 0, 1) := by decide +kernel
theorem dX8_tell_11 : decode cX8_tell 11 = .ok (.getfield 41, 3) := by decide +kernel
theorem dX8_tell_14 : decode cX8_tell 14 = .ok (.iconst 3, 1) := by decide +kernel
theorem dX8_tell_15 : decode cX8_tell 15 = .ok (.iload_n 1, 1) := by decide +kernel
theorem dX8_tell_16 : decode cX8_tell 16 = .ok (.imul, 1) := by decide +kernel
theorem dX8_tell_17 : decode cX8_tell 17 = .ok (.iaload, 1) := by decide +kernel
theorem dX8_tell_18 : decode cX8_tell 18 = .ok (.istore_n 2, 1) := by decide +kernel
theorem dX8_tell_19 : decode cX8_tell 19 = .ok (.aload_n 0, 1) := by decide +kernel
theorem dX8_tell_20 : decode cX8_tell 20 = .ok (.getfield 38, 3) := by decide +kernel
theorem dX8_tell_23 : decode cX8_tell 23 = .ok (.iload_n 1, 1) := by decide +kernel
theorem dX8_tell_24 : decode cX8_tell 24 = .ok (.iaload, 1) := by decide +kernel
theorem dX8_tell_25 : decode cX8_tell 25 = .ok (.lookupswitch 69 #[(1, 27), (2, 42)], 27) := by decide +kernel
theorem dX8_tell_52 : decode cX8_tell 52 = .ok (.aload_n 0, 1) := by decide +kernel
theorem dX8_tell_53 : decode cX8_tell 53 = .ok (.iconst 2, 1) := by decide +kernel
theorem dX8_tell_54 : decode cX8_tell 54 = .ok (.invokevirtual 232, 3) := by decide +kernel
theorem dX8_tell_57 : decode cX8_tell 57 = .ok (.aload_n 0, 1) := by decide +kernel
theorem dX8_tell_58 : decode cX8_tell 58 = .ok (.iconst 1, 1) := by decide +kernel
theorem dX8_tell_59 : decode cX8_tell 59 = .ok (.invokevirtual 232, 3) := by decide +kernel
theorem dX8_tell_62 : decode cX8_tell 62 = .ok (.iload_n 2, 1) := by decide +kernel
theorem dX8_tell_63 : decode cX8_tell 63 = .ok (.bipush 100, 2) := by decide +kernel
theorem dX8_tell_65 : decode cX8_tell 65 = .ok (.iadd, 1) := by decide +kernel
theorem dX8_tell_66 : decode cX8_tell 66 = .ok (.ireturn, 1) := by decide +kernel
theorem dX8_tell_67 : decode cX8_tell 67 = .ok (.aload_n 0, 1) := by decide +kernel
theorem dX8_tell_68 : decode cX8_tell 68 = .ok (.iconst 3, 1) := by decide +kernel
theorem dX8_tell_69 : decode cX8_tell 69 = .ok (.invokevirtual 232, 3) := by decide +kernel
theorem dX8_tell_72 : decode cX8_tell 72 = .ok (.aload_n 0, 1) := by decide +kernel
theorem dX8_tell_73 : decode cX8_tell 73 = .ok (.iconst 2, 1) := by decide +kernel
theorem dX8_tell_74 : decode cX8_tell 74 = .ok (.invokevirtual 232, 3) := by decide +kernel
theorem dX8_tell_77 : decode cX8_tell 77 = .ok (.aload_n 0, 1) := by decide +kernel
theorem dX8_tell_78 : decode cX8_tell 78 = .ok (.iconst 1, 1) := by decide +kernel
theorem dX8_tell_79 : decode cX8_tell 79 = .ok (.invokevirtual 232, 3) := by decide +kernel
theorem dX8_tell_82 : decode cX8_tell 82 = .ok (.aload_n 0, 1) := by decide +kernel
theorem dX8_tell_83 : decode cX8_tell 83 = .ok (.iconst 1, 1) := by decide +kernel
theorem dX8_tell_84 : decode cX8_tell 84 = .ok (.invokevirtual 232, 3) := by decide +kernel
theorem dX8_tell_87 : decode cX8_tell 87 = .ok (.iconst 2, 1) := by decide +kernel
theorem dX8_tell_88 : decode cX8_tell 88 = .ok (.iload_n 2, 1) := by decide +kernel
theorem dX8_tell_89 : decode cX8_tell 89 = .ok (.imul, 1) := by decide +kernel
theorem dX8_tell_90 : decode cX8_tell 90 = .ok (.bipush 100, 2) := by decide +kernel
theorem dX8_tell_92 : decode cX8_tell 92 = .ok (.iadd, 1) := by decide +kernel
theorem dX8_tell_93 : decode cX8_tell 93 = .ok (.ireturn, 1) := by decide +kernel
theorem dX8_tell_94 : decode cX8_tell 94 = .ok (.aload_n 0, 1) := by decide +kernel
theorem dX8_tell_95 : decode cX8_tell 95 = .ok (.iconst 1, 1) := by decide +kernel
theorem dX8_tell_96 : decode cX8_tell 96 = .ok (.invokevirtual 232, 3) := by decide +kernel
theorem dX8_tell_99 : decode cX8_tell 99 = .ok (.iload_n 2, 1) := by decide +kernel
theorem dX8_tell_100 : decode cX8_tell 100 = .ok (.ireturn, 1) := by decide +kernel
set_option maxRecDepth 20000 in
theorem ggX8_name_X8_isCoat : GoodIn wsX8_name wsX8_isCoat := goodIn_r _ [6, 7, 13, 14, 15, 16, 17, 18, 19, 20, 21, 22, 23, 24, 25, 26, 27, 28, 29, 30, 31, 32, 33, 34, 35, 36, 37, 38, 39, 40, 41, 42, 43, 44, 45, 46, 47] (by decide +kernel) (by decide +kernel)
set_option maxRecDepth 20000 in
theorem gX8_name_X8_isCoat : GoodIn wsX8_name (wsV RX8 137 RX8 yX8_isCoat wsX8_isCoat) := goodIn_app (goodIn_of _ (by decide +kernel)) ggX8_name_X8_isCoat
set_option maxRecDepth 20000 in
theorem ggX8_name_X8_begins : GoodIn wsX8_name wsX8_begins := goodIn_r _ [11, 12, 13, 14, 15, 16, 17, 18, 19, 20, 21, 22, 23, 24, 25, 26, 27, 28, 29, 30, 31, 32, 33, 34, 35, 36, 37, 38, 39, 40, 41, 42, 43, 44, 45, 46, 47] (by decide +kernel) (by decide +kernel)
set_option maxRecDepth 20000 in
theorem gX8_name_X8_begins : GoodIn wsX8_name (wsV RX8 232 RX8 yX8_begins wsX8_begins) := goodIn_app (goodIn_of _ (by decide +kernel)) ggX8_name_X8_begins
theorem dX8_name_0 : decode cX8_name 0 = .ok (.aload_n 0, 1) := by decide +kernel
theorem dX8_name_1 : decode cX8_name 1 = .ok (.iload_n 1, 1) := by decide +kernel
theorem dX8_name_2 : decode cX8_name 2 = .ok (.invokevirtual 137, 3) := by decide +kernel
theorem dX8_name_5 : decode cX8_name 5 = .ok (.ifCond .ne 5, 3) := by decide +kernel
theorem dX8_name_8 : decode cX8_name 8 = .ok (.iconst (-1), 1) := by decide +kernel
theorem dX8_name_9 : decode cX8_name 9 = .ok (.ireturn, 1) := by decide +kernel
theorem dX8_name_10 : decode cX8_name 10 = .ok (.aload_n 0, 1) := by decide +kernel
theorem dX8_name_11 : decode cX8_name 11 = .ok (.aload_n 0, 1) := by decide +kernel
theorem dX8_name_12 : decode cX8_name 12 = .ok (.getfield 38, 3) := by decide +kernel
theorem dX8_name_15 : decode cX8_name 15 = .ok (.iload_n 1, 1) := by decide +kernel
theorem dX8_name_16 : decode cX8_name 16 = .ok (.iaload, 1) := by decide +kernel
theorem dX8_name_17 : decode cX8_name 17 = .ok (.iconst 2, 1) := by decide +kernel
theorem dX8_name_18 : decode cX8_name 18 = .ok (.if_icmp .ne 7, 3) := by decide +kernel
theorem dX8_name_21 : decode cX8_name 21 = .ok (.iconst 5, 1) := by decide +kernel
theorem dX8_name_22 : decode cX8_name 22 = .ok (.goto 4, 3) := by decide +kernel
theorem dX8_name_25 : decode cX8_name 25 = .ok (.iconst 4, 1) := by decide +kernel
theorem dX8_name_26 : decode cX8_name 26 = .ok (.invokevirtual 232, 3) := by decide +kernel
theorem dX8_name_29 : decode cX8_name 29 = .ok (.aload_n 0, 1) := by decide +kernel
theorem dX8_name_30 : decode cX8_name 30 = .ok (.getfield 38, 3) := by decide +kernel
theorem dX8_name_33 : decode cX8_name 33 = .ok (.iload_n 1, 1) := by decide +kernel
theorem dX8_name_34 : decode cX8_name 34 = .ok (.iaload, 1) := by decide +kernel
theorem dX8_name_35 : decode cX8_name 35 = .ok (.iconst 2, 1) := by decide +kernel
theorem dX8_name_36 : decode cX8_name 36 = .ok (.if_icmp .ne 8, 3) := by decide +kernel
theorem dX8_name_39 : decode cX8_name 39 = .ok (.bipush 90, 2) := by decide +kernel
theorem dX8_name_41 : decode cX8_name 41 = .ok (.goto 4, 3) := by decide +kernel
theorem dX8_name_44 : decode cX8_name 44 = .ok (.iload_n 1, 1) := by decide +kernel
theorem dX8_name_45 : decode cX8_name 45 = .ok (.ireturn, 1) := by decide +kernel
set_option maxRecDepth 20000 in
theorem ggX8_as_X8_isCoat : GoodIn wsX8_as wsX8_isCoat := goodIn_r _ [7, 8, 16, 17, 18, 19, 20, 21, 22, 23, 24, 25, 26, 27, 28, 29, 30, 31, 32, 33, 34, 35, 36, 37, 38, 39, 40, 41, 42, 43, 44, 45, 46, 47, 48, 49, 50] (by decide +kernel) (by decide +kernel)
set_option maxRecDepth 20000 in
theorem gX8_as_X8_isCoat : GoodIn wsX8_as (wsV RX8 137 RX8 yX8_isCoat wsX8_isCoat) := goodIn_app (goodIn_of _ (by decide +kernel)) ggX8_as_X8_isCoat
set_option maxRecDepth 20000 in
theorem ggX8_as_X8_within : GoodIn wsX8_as wsX8_within := goodIn_r _ [11] (by decide +kernel) (by decide +kernel)
set_option maxRecDepth 20000 in
theorem gX8_as_X8_within : GoodIn wsX8_as (va_wsS RX8 71 yX8_within wsX8_within) := goodIn_app (goodIn_of _ (by decide +kernel)) ggX8_as_X8_within
set_option maxRecDepth 20000 in
theorem ggX8_as_X8_fails : GoodIn wsX8_as wsX8_fails := goodIn_r _ [15, 1, 16, 17, 18, 19, 20, 21, 22, 23, 24, 25, 26, 27, 28, 29, 30, 31, 32, 33, 34, 35, 36, 37, 38, 39, 40, 41, 42, 43, 44, 45, 46, 47, 48, 49, 50] (by decide +kernel) (by decide +kernel)
set_option maxRecDepth 20000 in
theorem gX8_as_X8_fails : GoodIn wsX8_as (wsV RX8 99 RX8 yX8_fails wsX8_fails) := goodIn_app (goodIn_of _ (by decide +kernel)) ggX8_as_X8_fails
theorem dX8_as_0 : decode cX8_as 0 = .ok (.aload_n 0, 1) := by decide +kernel
theorem dX8_as_1 : decode cX8_as 1 = .ok (.iconst 0, 1) := by decide +kernel
theorem dX8_as_2 : decode cX8_as 2 = .ok (.putfield 65, 3) := by decide +kernel
theorem dX8_as_5 : decode cX8_as 5 = .ok (.aload_n 0, 1) := by decide +kernel
theorem dX8_as_6 : decode cX8_as 6 = .ok (.iload_n 1, 1) := by decide +kernel
theorem dX8_as_7 : decode cX8_as 7 = .ok (.invokevirtual 137, 3) := by decide +kernel
theorem dX8_as_10 : decode cX8_as 10 = .ok (.ifCond .ne 5, 3) := by decide +kernel
theorem dX8_as_13 : decode cX8_as 13 = .ok (.iconst (-1), 1) := by decide +kernel
theorem dX8_as_14 : decode cX8_as 14 = .ok (.ireturn, 1) := by decide +kernel
theorem dX8_as_15 : decode cX8_as 15 = .ok (.iload_n 2, 1) := by decide +kernel
theorem dX8_as_16 : decode cX8_as 16 = .ok (.iconst 0, 1) := by decide +kernel
theorem dX8_as_17 : decode cX8_as 17 = .ok (.iconst 2, 1) := by decide +kernel
theorem dX8_as_18 : decode cX8_as 18 = .ok (.invokestatic 71, 3) := by decide +kernel
theorem dX8_as_21 : decode cX8_as 21 = .ok (.ifCond .ne 6, 3) := by decide +kernel
theorem dX8_as_24 : decode cX8_as 24 = .ok (.bipush (-2), 2) := by decide +kernel
theorem dX8_as_26 : decode cX8_as 26 = .ok (.ireturn, 1) := by decide +kernel
theorem dX8_as_27 : decode cX8_as 27 = .ok (.aload_n 0, 1) := by decide +kernel
theorem dX8_as_28 : decode cX8_as 28 = .ok (.getfield 38, 3) := by decide +kernel
theorem dX8_as_31 : decode cX8_as 31 = .ok (.iload_n 1, 1) := by decide +kernel
theorem dX8_as_32 : decode cX8_as 32 = .ok (.iaload, 1) := by decide +kernel
theorem dX8_as_33 : decode cX8_as 33 = .ok (.iload_n 2, 1) := by decide +kernel
theorem dX8_as_34 : decode cX8_as 34 = .ok (.if_icmp .lt 7, 3) := by decide +kernel
theorem dX8_as_37 : decode cX8_as 37 = .ok (.iconst 1, 1) := by decide +kernel
theorem dX8_as_38 : decode cX8_as 38 = .ok (.goto 8, 3) := by decide +kernel
theorem dX8_as_41 : decode cX8_as 41 = .ok (.aload_n 0, 1) := by decide +kernel
theorem dX8_as_42 : decode cX8_as 42 = .ok (.iconst 2, 1) := by decide +kernel
theorem dX8_as_43 : decode cX8_as 43 = .ok (.invokevirtual 99, 3) := by decide +kernel
theorem dX8_as_46 : decode cX8_as 46 = .ok (.ireturn, 1) := by decide +kernel
theorem dX8_trace_0 : decode cX8_trace 0 = .ok (.aload_n 0, 1) := by decide +kernel
theorem dX8_trace_1 : decode cX8_trace 1 = .ok (.getfield 229, 3) := by decide +kernel
theorem dX8_trace_4 : decode cX8_trace 4 = .ok (.ireturn, 1) := by decide +kernel
theorem dX8_fault_0 : decode cX8_fault 0 = .ok (.aload_n 0, 1) := by decide +kernel
theorem dX8_fault_1 : decode cX8_fault 1 = .ok (.getfield 65, 3) := by decide +kernel
theorem dX8_fault_4 : decode cX8_fault 4 = .ok (.ireturn, 1) := by decide +kernel
set_option maxRecDepth 20000 in
theorem ggX8_many_X8_all : GoodIn wsX8_many wsX8_all := goodIn_r _ [11, 12, 1, 13, 14, 15, 16, 17, 18, 19, 20, 21, 22, 23, 24, 25, 26, 27, 28, 29, 30, 31, 32, 33, 34, 35, 36, 37, 38, 39, 40, 41, 42, 43, 44, 45, 46, 47] (by decide +kernel) (by decide +kernel)
set_option maxRecDepth 20000 in
theorem gX8_many_X8_all : GoodIn wsX8_many (wsV RX8 81 RX8 yX8_all wsX8_all) := goodIn_app (goodIn_of _ (by decide +kernel)) ggX8_many_X8_all
theorem dX8_many_0 : decode cX8_many 0 = .ok (.iload_n 1, 1) := by decide +kernel
theorem dX8_many_1 : decode cX8_many 1 = .ok (.tableswitch 78 0 6 #[43, 48, 53, 58, 63, 68, 73], 43) := by decide +kernel
theorem dX8_many_44 : decode cX8_many 44 = .ok (.aload_n 0, 1) := by decide +kernel
theorem dX8_many_45 : decode cX8_many 45 = .ok (.invokevirtual 81, 3) := by decide +kernel
theorem dX8_many_48 : decode cX8_many 48 = .ok (.ireturn, 1) := by decide +kernel
theorem dX8_many_49 : decode cX8_many 49 = .ok (.aload_n 0, 1) := by decide +kernel
theorem dX8_many_50 : decode cX8_many 50 = .ok (.getfield 78, 3) := by decide +kernel
theorem dX8_many_53 : decode cX8_many 53 = .ok (.ireturn, 1) := by decide +kernel
theorem dX8_many_54 : decode cX8_many 54 = .ok (.aload_n 0, 1) := by decide +kernel
theorem dX8_many_55 : decode cX8_many 55 = .ok (.getfield 124, 3) := by decide +kernel
theorem dX8_many_58 : decode cX8_many 58 = .ok (.ireturn, 1) := by decide +kernel
theorem dX8_many_59 : decode cX8_many 59 = .ok (.aload_n 0, 1) := by decide +kernel
theorem dX8_many_60 : decode cX8_many 60 = .ok (.getfield 121, 3) := by decide +kernel
theorem dX8_many_63 : decode cX8_many 63 = .ok (.ireturn, 1) := by decide +kernel
theorem dX8_many_64 : decode cX8_many 64 = .ok (.aload_n 0, 1) := by decide +kernel
theorem dX8_many_65 : decode cX8_many 65 = .ok (.getfield 112, 3) := by decide +kernel
theorem dX8_many_68 : decode cX8_many 68 = .ok (.ireturn, 1) := by decide +kernel
theorem dX8_many_69 : decode cX8_many 69 = .ok (.aload_n 0, 1) := by decide +kernel
theorem dX8_many_70 : decode cX8_many 70 = .ok (.getfield 115, 3) := by decide +kernel
theorem dX8_many_73 : decode cX8_many 73 = .ok (.ireturn, 1) := by decide +kernel
theorem dX8_many_74 : decode cX8_many 74 = .ok (.aload_n 0, 1) := by decide +kernel
theorem dX8_many_75 : decode cX8_many 75 = .ok (.getfield 118, 3) := by decide +kernel
theorem dX8_many_78 : decode cX8_many 78 = .ok (.ireturn, 1) := by decide +kernel
theorem dX8_many_79 : decode cX8_many 79 = .ok (.bipush (-2), 2) := by decide +kernel
theorem dX8_many_81 : decode cX8_many 81 = .ok (.ireturn, 1) := by decide +kernel
end
section
/-! V: the walk over a world of N cells at fixed places (tv_ad c k), its contents a function E; all that the kit's rows want beside is kept in tv_C -/
abbrev tv_c : Type := Launch × va_G × (Nat → ClassId) × (Nat → Nat)
abbrev tv_ad (c : tv_c) : Nat → Nat := c.2.2.2
abbrev tv_kk (c : tv_c) : Nat → ClassId := c.2.2.1
abbrev tv_D (c : tv_c) : va_G := c.2.1
abbrev tv_l (c : tv_c) : Launch := c.1
abbrev tv_X : Type := Program × Env × Room × State × MethodId × Array Value × List Frame × Method × Code × (State → Prop) × (Nat → Prop) × Nat × Nat × Nat
abbrev tv_xp (X : tv_X) : Program := X.1
abbrev tv_xe (X : tv_X) : Env := X.2.1
abbrev tv_xR (X : tv_X) : Room := X.2.2.1
abbrev tv_xs (X : tv_X) : State := X.2.2.2.1
abbrev tv_xm (X : tv_X) : MethodId := X.2.2.2.2.1
abbrev tv_xa (X : tv_X) : Array Value := X.2.2.2.2.2.1
abbrev tv_xb (X : tv_X) : List Frame := X.2.2.2.2.2.2.1
abbrev tv_xh (X : tv_X) : Method := X.2.2.2.2.2.2.2.1
abbrev tv_xc (X : tv_X) : Code := X.2.2.2.2.2.2.2.2.1
abbrev tv_xQ (X : tv_X) : State → Prop := X.2.2.2.2.2.2.2.2.2.1
abbrev tv_xA (X : tv_X) : Nat → Prop := X.2.2.2.2.2.2.2.2.2.2.1
abbrev tv_xn (X : tv_X) : Nat := X.2.2.2.2.2.2.2.2.2.2.2.1
abbrev tv_xk (X : tv_X) : Nat := X.2.2.2.2.2.2.2.2.2.2.2.2.1
abbrev tv_xz (X : tv_X) : Nat := X.2.2.2.2.2.2.2.2.2.2.2.2.2
/-- the array classes: ints, booleans, and the three of objects -/
def tv_tys (c : tv_c) : List (ClassId × FieldType) := [(tv_kk c 0, .int), (tv_kk c 1, .boolean), (tv_kk c 2, .object RX5), (tv_kk c 3, .object RX0), (tv_kk c 4, .object RX1)]
def tv_wl (N : Nat) (ad : Nat → Nat) (E : Nat → va_E) : va_W := (List.range N).map (fun k => (ad k, E k))
theorem tv_wl_get {N : Nat} {ad : Nat → Nat} {E : Nat → va_E} {k : Nat} (h : k < N) : (tv_wl N ad E)[k]? = some (ad k, E k) := by
  unfold tv_wl
  rw [List.getElem?_map, List.getElem?_range h]
  rfl
theorem tv_wl_some {N : Nat} {ad : Nat → Nat} {E : Nat → va_E} {k : Nat} {q : Nat × va_E} (h : (tv_wl N ad E)[k]? = some q) : k < N ∧ q = (ad k, E k) := by
  have hk : k < N := by
    have h1 := (List.getElem?_eq_some_iff.mp h).1
    simpa [tv_wl] using h1
  rw [tv_wl_get hk] at h
  exact ⟨hk, (Option.some.inj h).symm⟩
theorem tv_wl_set {N : Nat} {ad : Nat → Nat} {E : Nat → va_E} {k : Nat} {e : va_E} : (tv_wl N ad E).set k (ad k, e) = tv_wl N ad (va_up E k e) := by
  apply List.ext_getElem?
  intro j
  by_cases hj : j < N
  · rw [tv_wl_get hj]
    by_cases hk : k = j
    · subst hk
      rw [List.getElem?_set_self (by simpa [tv_wl] using hj)]
      simp [va_up]
    · rw [List.getElem?_set_ne hk, tv_wl_get hj]
      simp [va_up, Ne.symm hk]
  · rw [List.getElem?_eq_none (by simp [tv_wl]; omega), List.getElem?_eq_none (by simp [tv_wl]; omega)]
/-- which cells a method may change: the world's, and new ones -/
def tv_AA (N : Nat) (ad : Nat → Nat) (sz : Nat) : Nat → Prop := fun q => (∃ k, k < N ∧ q = ad k) ∨ sz ≤ q
/-- the links among nest mates that some methods use -/
def tv_N (U : State) : Prop := va_Nw (.methodLinkNest RX3 32 yX7_isWithin RX7) U ∧ va_Nw (.methodLinkNest RX5 40 yX7_isWithin RX7) U
theorem tv_N.warm {s U : State} (hW : s.WarmedH U.vm) (h : tv_N s) : tv_N U := ⟨va_Nw.warmM hW h.1, va_Nw.warmM hW h.2⟩
theorem tv_N.same {s U : State} (hW : s.vm = U.vm) (h : tv_N s) : tv_N U := ⟨va_Nw.same rfl hW h.1, va_Nw.same rfl hW h.2⟩
def tv_inj (N : Nat) (ad : Nat → Nat) : Prop := ∀ i j, i < N → j < N → ad i = ad j → i = j
/-- a method's start, but for its arguments -/
def tv_in (c : tv_c) (N : Nat) (E : Nat → va_E) (sz : Nat) (U : State) : Prop := U.heap.size = sz ∧ va_P (tv_D c) vwCl (tv_wl N (tv_ad c) E) U.heap ∧ va_K (tv_D c) vwCl (tv_tys c) U ∧ tv_N U ∧ tv_inj N (tv_ad c)
def tv_out (c : tv_c) (N : Nat) (u : Nat → va_E) (t : State) : Prop := va_P (tv_D c) vwCl (tv_wl N (tv_ad c) u) t.heap
theorem tv_in.blind {c : tv_c} {N : Nat} {E : Nat → va_E} {sz : Nat} {av : List Value} : FrameBlind (va_Pc av (tv_in c N E sz)) := by
  intro a U g mk q
  obtain ⟨q0, q1, q2, q3, q4, q5⟩ := q
  exact ⟨q0, q1, q2, va_K.moved (u := U) (U := U.calling g mk a) (Vm.Alike.refl U.vm) q3, tv_N.same (s := U) (U := U.calling g mk a) rfl q4, q5⟩
/-- contracts: an int, a long, nothing, a reference -/
def tv_Mi (c : tv_c) (N : Nat) (y : MethodName) (ws : List Cond) (rm : Room) (av : List Value) (E : Nat → va_E) (P : Int32 → (Nat → va_E) → Prop) : Prop :=
  ∀ sz : Nat, Met (tv_l c) y ws rm (va_Pc av (tv_in c N E sz)) (va_Qi P (tv_out c N) (tv_AA N (tv_ad c) sz)) 0 0 (tv_AA N (tv_ad c) sz)
def tv_Ml (c : tv_c) (N : Nat) (y : MethodName) (ws : List Cond) (rm : Room) (av : List Value) (E : Nat → va_E) (P : Int64 → (Nat → va_E) → Prop) : Prop :=
  ∀ sz : Nat, Met (tv_l c) y ws rm (va_Pc av (tv_in c N E sz)) (va_Ql P (tv_out c N) (tv_AA N (tv_ad c) sz)) 0 0 (tv_AA N (tv_ad c) sz)
def tv_Mv (c : tv_c) (N : Nat) (y : MethodName) (ws : List Cond) (rm : Room) (av : List Value) (E : Nat → va_E) (P : (Nat → va_E) → Prop) : Prop :=
  ∀ sz : Nat, Met (tv_l c) y ws rm (va_Pc av (tv_in c N E sz)) (va_Qv P (tv_out c N) (tv_AA N (tv_ad c) sz)) 0 0 (tv_AA N (tv_ad c) sz)
def tv_Mr (c : tv_c) (N : Nat) (y : MethodName) (ws : List Cond) (rm : Room) (av : List Value) (E : Nat → va_E) (b : Nat) (P : (Nat → va_E) → Prop) : Prop :=
  ∀ sz : Nat, Met (tv_l c) y ws rm (va_Pc av (tv_in c N E sz)) (va_Qr P (fun u a t => a = tv_ad c b ∧ tv_out c N u t) (tv_AA N (tv_ad c) sz)) 0 0 (tv_AA N (tv_ad c) sz)
abbrev tv_Fi (c : tv_c) (N : Nat) (y : MethodName) (ws : List Cond) (rm : Room) (av : List Value) (E : Nat → va_E) (v : Int32) (E' : Nat → va_E) : Prop := tv_Mi c N y ws rm av E (fun r u => r = v ∧ u = E')
abbrev tv_Fl (c : tv_c) (N : Nat) (y : MethodName) (ws : List Cond) (rm : Room) (av : List Value) (E : Nat → va_E) (v : Int64) (E' : Nat → va_E) : Prop := tv_Ml c N y ws rm av E (fun r u => r = v ∧ u = E')
abbrev tv_Fv (c : tv_c) (N : Nat) (y : MethodName) (ws : List Cond) (rm : Room) (av : List Value) (E : Nat → va_E) (E' : Nat → va_E) : Prop := tv_Mv c N y ws rm av E (fun u => u = E')
/-- the walk -/
def tv_V (c : tv_c) (N : Nat) (X : tv_X) (E : Nat → va_E) (pc : Nat) (lv : List (Nat × Value)) (st : List Value) : Prop :=
  ∀ (H : Heap) (locs : List Loc), va_P (tv_D c) vwCl (tv_wl N (tv_ad c) E) H → va_S (tv_xA X) (tv_xs X).heap H locs → ∀ ls : Array Slot, lv_has ls (tv_xn X) lv →
    W (tv_xp X) (tv_l c) (tv_xe X) (tv_xR X) (tv_xs X) (tv_xm X) (tv_xa X) (tv_xb X) (tv_xh X) (tv_xc X) H locs (tv_xk X) (tv_xz X) (tv_xQ X) (F0 (tv_xm X) pc ls st)
/-- what holds all the way: the machine, the method's bytes, its class, its words, its room, the world's places -/
def tv_C (c : tv_c) (N : Nat) (X : tv_X) (cc : ByteArray) (own : String) (Ts : List Cond) (nL : Nat) (rm : Room) : Prop :=
  (tv_xp X).tables.exec = Jvm.exec ∧ (tv_xc X).code = cc ∧ (tv_xc X).maxLocals = nL ∧ (tv_xs X).vm.findClass own = some (tv_xm X).cls ∧ (∀ w ∈ Ts, w.before (tv_xa X) (tv_xs X) = true) ∧ va_K (tv_D c) vwCl (tv_tys c) (tv_xs X) ∧ (∀ E, va_D (tv_xA X) (tv_wl N (tv_ad c) E)) ∧ (∀ q : Nat, (tv_xs X).heap.size ≤ q → tv_xA X q) ∧ tv_N (tv_xs X) ∧ tv_inj N (tv_ad c) ∧ tv_xn X = nL ∧ tv_xR X = rm ∧ tv_xk X ≤ rm.cells ∧ tv_xz X ≤ rm.slots
section TV
variable {c : tv_c} {N : Nat} {X : tv_X} {cc : ByteArray} {own : String} {Ts : List Cond} {nL : Nat} {rm : Room} {E : Nat → va_E} {pc : Nat} {lv : List (Nat × Value)} {st : List Value}
theorem tv_iconst (C : tv_C c N X cc own Ts nL rm) {n : Int} {v : Int32} (hd : decode cc pc = .ok (.iconst n, 1)) (hv : Int32.ofInt n = v) (k : tv_V c N X E (pc + 1) lv (.int v :: st)) : tv_V c N X E pc lv st :=
  fun H locs hP hS ls hl => lv_iconst C.1 C.2.1 hd hv (k H locs hP hS ls hl)
theorem tv_bipush (C : tv_C c N X cc own Ts nL rm) {n : Int} {v : Int32} (hd : decode cc pc = .ok (.bipush n, 2)) (hv : (Int8.ofInt n).toInt32 = v) (k : tv_V c N X E (pc + 2) lv (.int v :: st)) : tv_V c N X E pc lv st :=
  fun H locs hP hS ls hl => lv_bipush C.1 C.2.1 hd hv (k H locs hP hS ls hl)
theorem tv_sipush (C : tv_C c N X cc own Ts nL rm) {n : Int} {v : Int32} (hd : decode cc pc = .ok (.sipush n, 3)) (hv : (Int16.ofInt n).toInt32 = v) (k : tv_V c N X E (pc + 3) lv (.int v :: st)) : tv_V c N X E pc lv st :=
  fun H locs hP hS ls hl => lv_sipush C.1 C.2.1 hd hv (k H locs hP hS ls hl)
theorem tv_lconst (C : tv_C c N X cc own Ts nL rm) {n : Fin 2} {v : Int64} (hd : decode cc pc = .ok (.lconst n, 1)) (hv : Int64.ofNat (n : Nat) = v) (k : tv_V c N X E (pc + 1) lv (.long v :: st)) : tv_V c N X E pc lv st :=
  fun H locs hP hS ls hl => lv_lconst C.1 C.2.1 hd hv (k H locs hP hS ls hl)
theorem tv_ldc (C : tv_C c N X cc own Ts nL rm) {index : Nat} {v : Int32} (hw : Cond.constant own index v ∈ Ts) (hd : decode cc pc = .ok (.ldc index, 2)) (k : tv_V c N X E (pc + 2) lv (.int v :: st)) : tv_V c N X E pc lv st :=
  fun H locs hP hS ls hl => lv_ldc C.1 C.2.1 C.2.2.2.1 (C.2.2.2.2.1 _ hw) hd (k H locs hP hS ls hl)
theorem tv_ldc2 (C : tv_C c N X cc own Ts nL rm) {index : Nat} {v : Int64} (hw : Cond.constantLong own index v ∈ Ts) (hd : decode cc pc = .ok (.ldc2_w index, 3)) (k : tv_V c N X E (pc + 3) lv (.long v :: st)) : tv_V c N X E pc lv st :=
  fun H locs hP hS ls hl => lv_ldc2 C.1 C.2.1 C.2.2.2.1 (C.2.2.2.2.1 _ hw) hd (k H locs hP hS ls hl)
theorem tv_iload_n (C : tv_C c N X cc own Ts nL rm) {k : Fin 4} {i : Nat} {x : Int32} (hd : decode cc pc = .ok (.iload_n k, 1)) (hi : (k : Nat) = i) (n : Nat) (hl : lv[n]? = some (i, .int x)) (kk : tv_V c N X E (pc + 1) lv (.int x :: st)) : tv_V c N X E pc lv st :=
  fun H locs hP hS ls hl2 => lv_iload_n C.1 C.2.1 hd hi (lv_at hl2 n hl) (kk H locs hP hS ls hl2)
theorem tv_iload (C : tv_C c N X cc own Ts nL rm) {i : Nat} {x : Int32} (hd : decode cc pc = .ok (.iload i, 2)) (n : Nat) (hl : lv[n]? = some (i, .int x)) (kk : tv_V c N X E (pc + 2) lv (.int x :: st)) : tv_V c N X E pc lv st :=
  fun H locs hP hS ls hl2 => lv_iload C.1 C.2.1 hd (lv_at hl2 n hl) (kk H locs hP hS ls hl2)
theorem tv_lload_n (C : tv_C c N X cc own Ts nL rm) {k : Fin 4} {i : Nat} {x : Int64} (hd : decode cc pc = .ok (.lload_n k, 1)) (hi : (k : Nat) = i) (n : Nat) (hl : lv[n]? = some (i, .long x)) (kk : tv_V c N X E (pc + 1) lv (.long x :: st)) : tv_V c N X E pc lv st :=
  fun H locs hP hS ls hl2 => lv_lload_n C.1 C.2.1 hd hi (lv_at hl2 n hl) (kk H locs hP hS ls hl2)
theorem tv_lload (C : tv_C c N X cc own Ts nL rm) {i : Nat} {x : Int64} (hd : decode cc pc = .ok (.lload i, 2)) (n : Nat) (hl : lv[n]? = some (i, .long x)) (kk : tv_V c N X E (pc + 2) lv (.long x :: st)) : tv_V c N X E pc lv st :=
  fun H locs hP hS ls hl2 => lv_lload C.1 C.2.1 hd (lv_at hl2 n hl) (kk H locs hP hS ls hl2)
theorem tv_aload_n (C : tv_C c N X cc own Ts nL rm) {k : Fin 4} {i : Nat} {x : Nat} (hd : decode cc pc = .ok (.aload_n k, 1)) (hi : (k : Nat) = i) (n : Nat) (hl : lv[n]? = some (i, .ref x)) (kk : tv_V c N X E (pc + 1) lv (.ref x :: st)) : tv_V c N X E pc lv st :=
  fun H locs hP hS ls hl2 => lv_aload_n C.1 C.2.1 hd hi (lv_at hl2 n hl) (kk H locs hP hS ls hl2)
theorem tv_aload (C : tv_C c N X cc own Ts nL rm) {i : Nat} {x : Nat} (hd : decode cc pc = .ok (.aload i, 2)) (n : Nat) (hl : lv[n]? = some (i, .ref x)) (kk : tv_V c N X E (pc + 2) lv (.ref x :: st)) : tv_V c N X E pc lv st :=
  fun H locs hP hS ls hl2 => lv_aload C.1 C.2.1 hd (lv_at hl2 n hl) (kk H locs hP hS ls hl2)
theorem tv_istore_n (C : tv_C c N X cc own Ts nL rm) {k : Fin 4} {i : Nat} {x : Int32} {lv' : List (Nat × Value)} (hd : decode cc pc = .ok (.istore_n k, 1)) (hi : (k : Nat) = i) (hn : i < nL) (hl : (i, Value.int x) :: lv.filter (fun q => !(q.1 == i) && !(q.1 + 1 == i && q.2.category == 2)) = lv') (kk : tv_V c N X E (pc + 1) lv' st) : tv_V c N X E pc lv (.int x :: st) :=
  fun H locs hP hS _ hl2 => lv_istore_n C.1 C.2.1 hd hi hl2 (by rw [C.2.2.2.2.2.2.2.2.2.2.1]; exact hn) hl (fun ls hl3 => kk H locs hP hS ls hl3)
theorem tv_istore (C : tv_C c N X cc own Ts nL rm) {i : Nat} {x : Int32} {lv' : List (Nat × Value)} (hd : decode cc pc = .ok (.istore i, 2)) (hn : i < nL) (hl : (i, Value.int x) :: lv.filter (fun q => !(q.1 == i) && !(q.1 + 1 == i && q.2.category == 2)) = lv') (kk : tv_V c N X E (pc + 2) lv' st) : tv_V c N X E pc lv (.int x :: st) :=
  fun H locs hP hS _ hl2 => lv_istore C.1 C.2.1 hd hl2 (by rw [C.2.2.2.2.2.2.2.2.2.2.1]; exact hn) hl (fun ls hl3 => kk H locs hP hS ls hl3)
theorem tv_lstore_n (C : tv_C c N X cc own Ts nL rm) {k : Fin 4} {i : Nat} {x : Int64} {lv' : List (Nat × Value)} (hd : decode cc pc = .ok (.lstore_n k, 1)) (hi : (k : Nat) = i) (hn : i + 1 < nL) (hl : (i, Value.long x) :: lv.filter (fun q => !(q.1 == i) && (!(q.1 == i + 1) && !(q.1 + 1 == i && q.2.category == 2))) = lv') (kk : tv_V c N X E (pc + 1) lv' st) : tv_V c N X E pc lv (.long x :: st) :=
  fun H locs hP hS _ hl2 => lv_lstore_n C.1 C.2.1 hd hi hl2 (by rw [C.2.2.2.2.2.2.2.2.2.2.1]; exact hn) hl (fun ls hl3 => kk H locs hP hS ls hl3)
theorem tv_lstore (C : tv_C c N X cc own Ts nL rm) {i : Nat} {x : Int64} {lv' : List (Nat × Value)} (hd : decode cc pc = .ok (.lstore i, 2)) (hn : i + 1 < nL) (hl : (i, Value.long x) :: lv.filter (fun q => !(q.1 == i) && (!(q.1 == i + 1) && !(q.1 + 1 == i && q.2.category == 2))) = lv') (kk : tv_V c N X E (pc + 2) lv' st) : tv_V c N X E pc lv (.long x :: st) :=
  fun H locs hP hS _ hl2 => lv_lstore C.1 C.2.1 hd hl2 (by rw [C.2.2.2.2.2.2.2.2.2.2.1]; exact hn) hl (fun ls hl3 => kk H locs hP hS ls hl3)
theorem tv_astore_n (C : tv_C c N X cc own Ts nL rm) {k : Fin 4} {i : Nat} {x : Nat} {lv' : List (Nat × Value)} (hd : decode cc pc = .ok (.astore_n k, 1)) (hi : (k : Nat) = i) (hn : i < nL) (hl : (i, Value.ref x) :: lv.filter (fun q => !(q.1 == i) && !(q.1 + 1 == i && q.2.category == 2)) = lv') (kk : tv_V c N X E (pc + 1) lv' st) : tv_V c N X E pc lv (.ref x :: st) :=
  fun H locs hP hS _ hl2 => lv_astore_n C.1 C.2.1 hd hi hl2 (by rw [C.2.2.2.2.2.2.2.2.2.2.1]; exact hn) hl (fun ls hl3 => kk H locs hP hS ls hl3)
theorem tv_astore (C : tv_C c N X cc own Ts nL rm) {i : Nat} {x : Nat} {lv' : List (Nat × Value)} (hd : decode cc pc = .ok (.astore i, 2)) (hn : i < nL) (hl : (i, Value.ref x) :: lv.filter (fun q => !(q.1 == i) && !(q.1 + 1 == i && q.2.category == 2)) = lv') (kk : tv_V c N X E (pc + 2) lv' st) : tv_V c N X E pc lv (.ref x :: st) :=
  fun H locs hP hS _ hl2 => lv_astore C.1 C.2.1 hd hl2 (by rw [C.2.2.2.2.2.2.2.2.2.2.1]; exact hn) hl (fun ls hl3 => kk H locs hP hS ls hl3)
theorem tv_iinc (C : tv_C c N X cc own Ts nL rm) {i k : Nat} {n : Int} {x v : Int32} {lv' : List (Nat × Value)} (hd : decode cc pc = .ok (.iinc i n, 3)) (k : Nat) (hk : lv[k]? = some (i, .int x)) (hv : x + Int32.ofInt n = v) (hn : i < nL) (hl : (i, Value.int v) :: lv.filter (fun q => !(q.1 == i) && !(q.1 + 1 == i && q.2.category == 2)) = lv') (kk : tv_V c N X E (pc + 3) lv' st) : tv_V c N X E pc lv st :=
  fun H locs hP hS _ hl2 => lv_iinc C.1 C.2.1 hd hl2 hk hv (by rw [C.2.2.2.2.2.2.2.2.2.2.1]; exact hn) hl (fun ls hl3 => kk H locs hP hS ls hl3)
theorem tv_iadd (C : tv_C c N X cc own Ts nL rm) {x y : Int32} (hd : decode cc pc = .ok (.iadd, 1)) (k : tv_V c N X E (pc + 1) lv (.int (x + y) :: st)) : tv_V c N X E pc lv (.int y :: .int x :: st) :=
  fun H locs hP hS ls hl => lv_iadd C.1 C.2.1 hd (k H locs hP hS ls hl)
theorem tv_isub (C : tv_C c N X cc own Ts nL rm) {x y : Int32} (hd : decode cc pc = .ok (.isub, 1)) (k : tv_V c N X E (pc + 1) lv (.int (x - y) :: st)) : tv_V c N X E pc lv (.int y :: .int x :: st) :=
  fun H locs hP hS ls hl => lv_isub C.1 C.2.1 hd (k H locs hP hS ls hl)
theorem tv_imul (C : tv_C c N X cc own Ts nL rm) {x y : Int32} (hd : decode cc pc = .ok (.imul, 1)) (k : tv_V c N X E (pc + 1) lv (.int (x * y) :: st)) : tv_V c N X E pc lv (.int y :: .int x :: st) :=
  fun H locs hP hS ls hl => lv_imul C.1 C.2.1 hd (k H locs hP hS ls hl)
theorem tv_iand (C : tv_C c N X cc own Ts nL rm) {x y : Int32} (hd : decode cc pc = .ok (.iand, 1)) (k : tv_V c N X E (pc + 1) lv (.int (x &&& y) :: st)) : tv_V c N X E pc lv (.int y :: .int x :: st) :=
  fun H locs hP hS ls hl => lv_iand C.1 C.2.1 hd (k H locs hP hS ls hl)
theorem tv_idiv (C : tv_C c N X cc own Ts nL rm) {x y : Int32} (hne : ¬ y = 0) (hd : decode cc pc = .ok (.idiv, 1)) (k : tv_V c N X E (pc + 1) lv (.int (x / y) :: st)) : tv_V c N X E pc lv (.int y :: .int x :: st) :=
  fun H locs hP hS ls hl => lv_idiv C.1 C.2.1 hd hne (k H locs hP hS ls hl)
theorem tv_irem (C : tv_C c N X cc own Ts nL rm) {x y : Int32} (hne : ¬ y = 0) (hd : decode cc pc = .ok (.irem, 1)) (k : tv_V c N X E (pc + 1) lv (.int (x - x / y * y) :: st)) : tv_V c N X E pc lv (.int y :: .int x :: st) :=
  fun H locs hP hS ls hl => lv_irem C.1 C.2.1 hd hne (k H locs hP hS ls hl)
theorem tv_ineg (C : tv_C c N X cc own Ts nL rm) {x : Int32} (hd : decode cc pc = .ok (.ineg, 1)) (k : tv_V c N X E (pc + 1) lv (.int (-x) :: st)) : tv_V c N X E pc lv (.int x :: st) :=
  fun H locs hP hS ls hl => lv_ineg C.1 C.2.1 hd (k H locs hP hS ls hl)
theorem tv_lor (C : tv_C c N X cc own Ts nL rm) {x y : Int64} (hd : decode cc pc = .ok (.lor, 1)) (k : tv_V c N X E (pc + 1) lv (.long (x ||| y) :: st)) : tv_V c N X E pc lv (.long y :: .long x :: st) :=
  fun H locs hP hS ls hl => lv_lor C.1 C.2.1 hd (k H locs hP hS ls hl)
theorem tv_lshl (C : tv_C c N X cc own Ts nL rm) {x : Int64} {y : Int32} (hd : decode cc pc = .ok (.lshl, 1)) (k : tv_V c N X E (pc + 1) lv (.long (x <<< (y.toInt64 &&& 63)) :: st)) : tv_V c N X E pc lv (.int y :: .long x :: st) :=
  fun H locs hP hS ls hl => lv_lshl C.1 C.2.1 hd rfl (k H locs hP hS ls hl)
theorem tv_i2l (C : tv_C c N X cc own Ts nL rm) {x : Int32} (hd : decode cc pc = .ok (.i2l, 1)) (k : tv_V c N X E (pc + 1) lv (.long x.toInt64 :: st)) : tv_V c N X E pc lv (.int x :: st) :=
  fun H locs hP hS ls hl => lv_i2l C.1 C.2.1 hd rfl (k H locs hP hS ls hl)
theorem tv_i2b (C : tv_C c N X cc own Ts nL rm) {x : Int32} (hd : decode cc pc = .ok (.i2b, 1)) (k : tv_V c N X E (pc + 1) lv (.int x.toInt8.toInt32 :: st)) : tv_V c N X E pc lv (.int x :: st) :=
  fun H locs hP hS ls hl => lv_i2b C.1 C.2.1 hd rfl (k H locs hP hS ls hl)
theorem tv_i2s (C : tv_C c N X cc own Ts nL rm) {x : Int32} (hd : decode cc pc = .ok (.i2s, 1)) (k : tv_V c N X E (pc + 1) lv (.int x.toInt16.toInt32 :: st)) : tv_V c N X E pc lv (.int x :: st) :=
  fun H locs hP hS ls hl => lv_i2s C.1 C.2.1 hd rfl (k H locs hP hS ls hl)
theorem tv_dup (C : tv_C c N X cc own Ts nL rm) {va : Value} (hd : decode cc pc = .ok (.dup, 1)) (hva : va.category = 1) (k : tv_V c N X E (pc + 1) lv (va :: va :: st)) : tv_V c N X E pc lv (va :: st) :=
  fun H locs hP hS ls hl => lv_dup C.1 C.2.1 hd hva (k H locs hP hS ls hl)
theorem tv_dup2 (C : tv_C c N X cc own Ts nL rm) {va vb : Value} (hd : decode cc pc = .ok (.dup2, 1)) (hva : va.category = 1) (hvb : vb.category = 1) (k : tv_V c N X E (pc + 1) lv (va :: vb :: va :: vb :: st)) : tv_V c N X E pc lv (va :: vb :: st) :=
  fun H locs hP hS ls hl => lv_dup2_11 C.1 C.2.1 hd hva hvb (k H locs hP hS ls hl)
theorem tv_pop (C : tv_C c N X cc own Ts nL rm) {va : Value} (hd : decode cc pc = .ok (.pop, 1)) (hva : va.category = 1) (k : tv_V c N X E (pc + 1) lv st) : tv_V c N X E pc lv (va :: st) :=
  fun H locs hP hS ls hl => lv_pop C.1 C.2.1 hd hva (k H locs hP hS ls hl)
theorem tv_goto (C : tv_C c N X cc own Ts nL rm) {off : Int} (tgt : Nat) (hd : decode cc pc = .ok (.goto off, 3)) (ht : (pc : Int) + off = (tgt : Int)) (k : tv_V c N X E tgt lv st) : tv_V c N X E pc lv st :=
  fun H locs hP hS ls hl => lv_goto C.1 C.2.1 hd ht (k H locs hP hS ls hl)
theorem tv_if_eq (C : tv_C c N X cc own Ts nL rm) {x : Int32} {off : Int} (tgt : Nat) (hd : decode cc pc = .ok (.ifCond .eq off, 3)) (ht : (pc : Int) + off = (tgt : Int)) (kt : x = 0 → tv_V c N X E tgt lv st) (kf : ¬ x = 0 → tv_V c N X E (pc + 3) lv st) : tv_V c N X E pc lv (.int x :: st) :=
  fun H locs hP hS ls hl => lv_if_eq C.1 C.2.1 hd ht (fun q => kt q H locs hP hS ls hl) (fun q => kf q H locs hP hS ls hl)
theorem tv_if_ne (C : tv_C c N X cc own Ts nL rm) {x : Int32} {off : Int} (tgt : Nat) (hd : decode cc pc = .ok (.ifCond .ne off, 3)) (ht : (pc : Int) + off = (tgt : Int)) (kt : ¬ x = 0 → tv_V c N X E tgt lv st) (kf : x = 0 → tv_V c N X E (pc + 3) lv st) : tv_V c N X E pc lv (.int x :: st) :=
  fun H locs hP hS ls hl => lv_if_ne C.1 C.2.1 hd ht (fun q => kt q H locs hP hS ls hl) (fun q => kf q H locs hP hS ls hl)
theorem tv_if_lt (C : tv_C c N X cc own Ts nL rm) {x : Int32} {off : Int} (tgt : Nat) (hd : decode cc pc = .ok (.ifCond .lt off, 3)) (ht : (pc : Int) + off = (tgt : Int)) (kt : x < 0 → tv_V c N X E tgt lv st) (kf : ¬ x < 0 → tv_V c N X E (pc + 3) lv st) : tv_V c N X E pc lv (.int x :: st) :=
  fun H locs hP hS ls hl => lv_if_lt C.1 C.2.1 hd ht (fun q => kt q H locs hP hS ls hl) (fun q => kf q H locs hP hS ls hl)
theorem tv_if_ge (C : tv_C c N X cc own Ts nL rm) {x : Int32} {off : Int} (tgt : Nat) (hd : decode cc pc = .ok (.ifCond .ge off, 3)) (ht : (pc : Int) + off = (tgt : Int)) (kt : 0 ≤ x → tv_V c N X E tgt lv st) (kf : ¬ 0 ≤ x → tv_V c N X E (pc + 3) lv st) : tv_V c N X E pc lv (.int x :: st) :=
  fun H locs hP hS ls hl => lv_if_ge C.1 C.2.1 hd ht (fun q => kt q H locs hP hS ls hl) (fun q => kf q H locs hP hS ls hl)
theorem tv_if_gt (C : tv_C c N X cc own Ts nL rm) {x : Int32} {off : Int} (tgt : Nat) (hd : decode cc pc = .ok (.ifCond .gt off, 3)) (ht : (pc : Int) + off = (tgt : Int)) (kt : 0 < x → tv_V c N X E tgt lv st) (kf : ¬ 0 < x → tv_V c N X E (pc + 3) lv st) : tv_V c N X E pc lv (.int x :: st) :=
  fun H locs hP hS ls hl => lv_if_gt C.1 C.2.1 hd ht (fun q => kt q H locs hP hS ls hl) (fun q => kf q H locs hP hS ls hl)
theorem tv_if_le (C : tv_C c N X cc own Ts nL rm) {x : Int32} {off : Int} (tgt : Nat) (hd : decode cc pc = .ok (.ifCond .le off, 3)) (ht : (pc : Int) + off = (tgt : Int)) (kt : x ≤ 0 → tv_V c N X E tgt lv st) (kf : ¬ x ≤ 0 → tv_V c N X E (pc + 3) lv st) : tv_V c N X E pc lv (.int x :: st) :=
  fun H locs hP hS ls hl => lv_if_le C.1 C.2.1 hd ht (fun q => kt q H locs hP hS ls hl) (fun q => kf q H locs hP hS ls hl)
theorem tv_icmp_eq (C : tv_C c N X cc own Ts nL rm) {x y : Int32} {off : Int} (tgt : Nat) (hd : decode cc pc = .ok (.if_icmp .eq off, 3)) (ht : (pc : Int) + off = (tgt : Int)) (kt : x = y → tv_V c N X E tgt lv st) (kf : ¬ x = y → tv_V c N X E (pc + 3) lv st) : tv_V c N X E pc lv (.int y :: .int x :: st) :=
  fun H locs hP hS ls hl => lv_icmp_eq C.1 C.2.1 hd ht (fun q => kt q H locs hP hS ls hl) (fun q => kf q H locs hP hS ls hl)
theorem tv_icmp_ne (C : tv_C c N X cc own Ts nL rm) {x y : Int32} {off : Int} (tgt : Nat) (hd : decode cc pc = .ok (.if_icmp .ne off, 3)) (ht : (pc : Int) + off = (tgt : Int)) (kt : ¬ x = y → tv_V c N X E tgt lv st) (kf : x = y → tv_V c N X E (pc + 3) lv st) : tv_V c N X E pc lv (.int y :: .int x :: st) :=
  fun H locs hP hS ls hl => lv_icmp_ne C.1 C.2.1 hd ht (fun q => kt q H locs hP hS ls hl) (fun q => kf q H locs hP hS ls hl)
theorem tv_icmp_lt (C : tv_C c N X cc own Ts nL rm) {x y : Int32} {off : Int} (tgt : Nat) (hd : decode cc pc = .ok (.if_icmp .lt off, 3)) (ht : (pc : Int) + off = (tgt : Int)) (kt : x < y → tv_V c N X E tgt lv st) (kf : ¬ x < y → tv_V c N X E (pc + 3) lv st) : tv_V c N X E pc lv (.int y :: .int x :: st) :=
  fun H locs hP hS ls hl => lv_icmp_lt C.1 C.2.1 hd ht (fun q => kt q H locs hP hS ls hl) (fun q => kf q H locs hP hS ls hl)
theorem tv_icmp_ge (C : tv_C c N X cc own Ts nL rm) {x y : Int32} {off : Int} (tgt : Nat) (hd : decode cc pc = .ok (.if_icmp .ge off, 3)) (ht : (pc : Int) + off = (tgt : Int)) (kt : y ≤ x → tv_V c N X E tgt lv st) (kf : ¬ y ≤ x → tv_V c N X E (pc + 3) lv st) : tv_V c N X E pc lv (.int y :: .int x :: st) :=
  fun H locs hP hS ls hl => lv_icmp_ge C.1 C.2.1 hd ht (fun q => kt q H locs hP hS ls hl) (fun q => kf q H locs hP hS ls hl)
theorem tv_icmp_gt (C : tv_C c N X cc own Ts nL rm) {x y : Int32} {off : Int} (tgt : Nat) (hd : decode cc pc = .ok (.if_icmp .gt off, 3)) (ht : (pc : Int) + off = (tgt : Int)) (kt : y < x → tv_V c N X E tgt lv st) (kf : ¬ y < x → tv_V c N X E (pc + 3) lv st) : tv_V c N X E pc lv (.int y :: .int x :: st) :=
  fun H locs hP hS ls hl => lv_icmp_gt C.1 C.2.1 hd ht (fun q => kt q H locs hP hS ls hl) (fun q => kf q H locs hP hS ls hl)
theorem tv_icmp_le (C : tv_C c N X cc own Ts nL rm) {x y : Int32} {off : Int} (tgt : Nat) (hd : decode cc pc = .ok (.if_icmp .le off, 3)) (ht : (pc : Int) + off = (tgt : Int)) (kt : x ≤ y → tv_V c N X E tgt lv st) (kf : ¬ x ≤ y → tv_V c N X E (pc + 3) lv st) : tv_V c N X E pc lv (.int y :: .int x :: st) :=
  fun H locs hP hS ls hl => lv_icmp_le C.1 C.2.1 hd ht (fun q => kt q H locs hP hS ls hl) (fun q => kf q H locs hP hS ls hl)
theorem tv_tableOut (C : tv_C c N X cc own Ts nL rm) {dflt lo hi : Int} {offs : Array Int} {len : Nat} {x : Int32} (tgt : Nat) (hd : decode cc pc = .ok (.tableswitch dflt lo hi offs, len)) (h : x.toInt < lo ∨ hi < x.toInt) (ht : (pc : Int) + dflt = (tgt : Int)) (k : tv_V c N X E tgt lv st) : tv_V c N X E pc lv (.int x :: st) :=
  fun H locs hP hS ls hl => lv_tableOut C.1 C.2.1 hd h ht (k H locs hP hS ls hl)
theorem tv_tableIn (C : tv_C c N X cc own Ts nL rm) {dflt lo hi : Int} {offs : Array Int} {len : Nat} {x : Int32} {off : Int} (tgt : Nat) (hd : decode cc pc = .ok (.tableswitch dflt lo hi offs, len)) (h1 : ¬ x.toInt < lo) (h2 : ¬ hi < x.toInt) (ho : offs[(x.toInt - lo).toNat]? = some off) (ht : (pc : Int) + off = (tgt : Int)) (k : tv_V c N X E tgt lv st) : tv_V c N X E pc lv (.int x :: st) :=
  fun H locs hP hS ls hl => lv_tableIn C.1 C.2.1 hd h1 h2 ho ht (k H locs hP hS ls hl)
theorem tv_lookup (C : tv_C c N X cc own Ts nL rm) {dflt : Int} {ps : Array (Int × Int)} {len : Nat} {x : Int32} {off : Int} (tgt : Nat) (hd : decode cc pc = .ok (.lookupswitch dflt ps, len)) (hp : (ps.toList.zip (ps.toList.drop 1)).all (fun (a, next) => a.1 < next.1) = true) (ho : Op.lookupswitch.offset ps.toList dflt x.toInt = off) (ht : (pc : Int) + off = (tgt : Int)) (k : tv_V c N X E tgt lv st) : tv_V c N X E pc lv (.int x :: st) :=
  fun H locs hP hS ls hl => lv_lookup C.1 C.2.1 hd hp ho ht (k H locs hP hS ls hl)
/-- fields -/
theorem tv_get (C : tv_C c N X cc own Ts nL rm) (k : Nat) (hk : k < N) {ci : Nat} {fs : List Value} (he : E k = .inr (ci, fs)) {Cn : String} {T : u_T} {Nf index : Nat} (hc : vwCl[ci]? = some (Cn, T, Nf)) (hin : ∀ w ∈ u_ws Cn T Nf, w ∈ Ts) (j : Nat) (hj : j < Nf) (hl : Cond.fieldLink own index (T j).1 (T j).2.1 (T j).2.2.1 ∈ Ts) {v : Value} (hv : fs[j]? = some v) (hd : decode cc pc = .ok (.getfield index, 3)) (kk : tv_V c N X E (pc + 3) lv (v :: st)) : tv_V c N X E pc lv (.ref (tv_ad c k) :: st) :=
  fun H locs hP hS ls hl2 => va_get (D := tv_D c) C.1 C.2.1 C.2.2.2.2.1 hin C.2.2.2.1 C.2.2.2.2.2.1 hP k ((tv_wl_get hk).trans (by rw [he])) hc j hj (C.2.2.2.2.1 _ hl) (fun _ h9 => h9) hv hd (kk H locs hP hS ls hl2)
theorem tv_put (C : tv_C c N X cc own Ts nL rm) (k : Nat) (hk : k < N) {ci : Nat} {fs : List Value} (he : E k = .inr (ci, fs)) {Cn : String} {T : u_T} {Nf index : Nat} (hc : vwCl[ci]? = some (Cn, T, Nf)) (hin : ∀ w ∈ u_ws Cn T Nf, w ∈ Ts) (ty0 : Nat → FieldType) (hty : ∀ k, k < Nf → parseFieldDescriptor (T k).2.2.1 = some (ty0 k)) (hnm : ∀ a, a < Nf → ∀ b, b < Nf → a ≠ b → (T a).2.1 ≠ (T b).2.1) (j : Nat) (hj : j < Nf) (hl : Cond.fieldLink own index (T j).1 (T j).2.1 (T j).2.2.1 ∈ Ts) (hfin : (T j).2.2.2 = false) {ty : FieldType} {v : Value} (hty2 : parseFieldDescriptor (T j).2.2.1 = some ty) (hn : narrow ty v = v) (hfit : fits ty v = true) (hlen : j < fs.length) {E' : Nat → va_E} (hE : va_up E k (.inr (ci, fs.set j v)) = E') (hd : decode cc pc = .ok (.putfield index, 3)) (kk : tv_V c N X E' (pc + 3) lv st) : tv_V c N X E pc lv (v :: .ref (tv_ad c k) :: st) := by
  intro H locs hP hS ls hl2
  refine va_put (D := tv_D c) C.1 C.2.1 C.2.2.2.2.1 hin ty0 hty hnm C.2.2.2.1 C.2.2.2.2.2.1 hP (C.2.2.2.2.2.2.1 E) hS k ((tv_wl_get hk).trans (by rw [he])) hc j hj (C.2.2.2.2.1 _ hl) (fun _ h9 => h9) hfin hty2 hn hfit hlen hd (fun H1 locs1 hP1 _ hS1 => kk H1 locs1 ?_ hS1 ls hl2)
  rw [← hE, ← tv_wl_set]
  exact hP1
/-- arrays of ints, of booleans, of objects -/
theorem tv_iald (C : tv_C c N X cc own Ts nL rm) (k : Nat) (hk : k < N) {n : Nat} {f : Nat → Int32} (he : E k = .inl (tv_kk c 0, n, .inl f)) {i : Int32} (j : Nat) (hi : i = nI j) (hj : j < n) (hn : n < 2 ^ 31) {v : Int32} (hv : f j = v) (hd : decode cc pc = .ok (.iaload, 1)) (kk : tv_V c N X E (pc + 1) lv (.int v :: st)) : tv_V c N X E pc lv (.int i :: .ref (tv_ad c k) :: st) := by
  intro H locs hP hS ls hl2
  subst hi
  refine va_iald (D := tv_D c) C.1 C.2.1 C.2.2.2.2.2.1 hP k 0 ((tv_wl_get hk).trans (by rw [he])) rfl (vp_in_nI hj hn) hd ?_
  rw [nI_clamp (Nat.lt_trans hj hn), hv]
  exact kk H locs hP hS ls hl2
theorem tv_iast (C : tv_C c N X cc own Ts nL rm) (k : Nat) (hk : k < N) {n : Nat} {f : Nat → Int32} (he : E k = .inl (tv_kk c 0, n, .inl f)) {i x : Int32} (j : Nat) (hi : i = nI j) (hj : j < n) (hn : n < 2 ^ 31) {E' : Nat → va_E} (hE : va_up E k (.inl (tv_kk c 0, n, .inl (upd f j x))) = E') (hd : decode cc pc = .ok (.iastore, 1)) (kk : tv_V c N X E' (pc + 1) lv st) : tv_V c N X E pc lv (.int x :: .int i :: .ref (tv_ad c k) :: st) := by
  intro H locs hP hS ls hl2
  subst hi
  refine va_iast (D := tv_D c) C.1 C.2.1 C.2.2.2.2.2.1 hP (C.2.2.2.2.2.2.1 E) hS k 0 ((tv_wl_get hk).trans (by rw [he])) rfl (vp_in_nI hj hn) hd (fun H1 locs1 hP1 _ hS1 => kk H1 locs1 ?_ hS1 ls hl2)
  rw [nI_clamp (Nat.lt_trans hj hn)] at hP1
  rw [← hE, ← tv_wl_set]
  exact hP1
theorem tv_zald (C : tv_C c N X cc own Ts nL rm) (k : Nat) (hk : k < N) {n : Nat} {f : Nat → Int32} (he : E k = .inl (tv_kk c 1, n, .inl f)) {i : Int32} (j : Nat) (hi : i = nI j) (hj : j < n) (hn : n < 2 ^ 31) {v : Int32} (hv : f j = v) (hd : decode cc pc = .ok (.baload, 1)) (kk : tv_V c N X E (pc + 1) lv (.int v :: st)) : tv_V c N X E pc lv (.int i :: .ref (tv_ad c k) :: st) := by
  intro H locs hP hS ls hl2
  subst hi
  refine va_zald (D := tv_D c) C.1 C.2.1 C.2.2.2.2.2.1 hP k 1 ((tv_wl_get hk).trans (by rw [he])) rfl (vp_in_nI hj hn) hd ?_
  rw [nI_clamp (Nat.lt_trans hj hn), hv]
  exact kk H locs hP hS ls hl2
theorem tv_zast (C : tv_C c N X cc own Ts nL rm) (k : Nat) (hk : k < N) {n : Nat} {f : Nat → Int32} (he : E k = .inl (tv_kk c 1, n, .inl f)) {i x : Int32} (j : Nat) (hi : i = nI j) (hj : j < n) (hn : n < 2 ^ 31) (hx : vp_nar .boolean x = x) {E' : Nat → va_E} (hE : va_up E k (.inl (tv_kk c 1, n, .inl (upd f j x))) = E') (hd : decode cc pc = .ok (.bastore, 1)) (kk : tv_V c N X E' (pc + 1) lv st) : tv_V c N X E pc lv (.int x :: .int i :: .ref (tv_ad c k) :: st) := by
  intro H locs hP hS ls hl2
  subst hi
  refine va_zast (D := tv_D c) C.1 C.2.1 C.2.2.2.2.2.1 hP (C.2.2.2.2.2.2.1 E) hS k 1 ((tv_wl_get hk).trans (by rw [he])) rfl (vp_in_nI hj hn) hd (fun H1 locs1 hP1 _ hS1 => kk H1 locs1 ?_ hS1 ls hl2)
  rw [nI_clamp (Nat.lt_trans hj hn), hx] at hP1
  rw [← hE, ← tv_wl_set]
  exact hP1
theorem tv_aald (C : tv_C c N X cc own Ts nL rm) (k : Nat) (hk : k < N) {n : Nat} {f : Nat → Option Nat} {cA : ClassId} (he : E k = .inl (cA, n, .inr (.inr (.inr (.inr f))))) (t0 : Nat) {Cn : String} (ht : (tv_tys c)[t0]? = some (cA, .object Cn)) {i : Int32} (j : Nat) (hi : i = nI j) (hj : j < n) (hn : n < 2 ^ 31) {a : Nat} (ha : f j = some a) (hd : decode cc pc = .ok (.aaload, 1)) (kk : tv_V c N X E (pc + 1) lv (.ref a :: st)) : tv_V c N X E pc lv (.int i :: .ref (tv_ad c k) :: st) := by
  intro H locs hP hS ls hl2
  subst hi
  refine va_aldq (D := tv_D c) C.1 C.2.1 C.2.2.2.2.2.1 hP k t0 ((tv_wl_get hk).trans (by rw [he])) ht (vp_in_nI hj hn) hd ?_
  rw [nI_clamp (Nat.lt_trans hj hn), ha]
  exact kk H locs hP hS ls hl2
theorem tv_alen (C : tv_C c N X cc own Ts nL rm) (k : Nat) (hk : k < N) {n : Nat} {f : Nat → Int32} (he : E k = .inl (tv_kk c 0, n, .inl f)) (hd : decode cc pc = .ok (.arraylength, 1)) (kk : tv_V c N X E (pc + 1) lv (.int (nI n) :: st)) : tv_V c N X E pc lv (.ref (tv_ad c k) :: st) := by
  intro H locs hP hS ls hl2
  exact va_alen (D := tv_D c) (x := (n, .inl f)) C.1 C.2.1 C.2.2.2.2.2.1 hP k 0 ((tv_wl_get hk).trans (by rw [he])) rfl rfl hd (kk H locs hP hS ls hl2)
/-- the library's functions -/
theorem tv_max (C : tv_C c N X cc own Ts nL rm) {index : Nat} (h1 : Cond.methodLink own index Lib.Math.max.name ∈ Ts) (h2 : Cond.static Lib.Math.max.name ∈ Ts) (h3 : Cond.initialized "java/lang/Math" ∈ Ts) (h4 : Cond.code Lib.Math.max.name Lib.Math.max.code 2 (some .int) ∈ Ts) (hf : 1 ≤ rm.frames) (hloc : (st.map fun v => v.category).sum + 13 ≤ rm.locals) {x y : Int32} (hd : decode cc pc = .ok (.invokestatic index, 3)) (kk : tv_V c N X E (pc + 3) lv (.int (if x < y then y else x) :: st)) : tv_V c N X E pc lv (.int y :: .int x :: st) := by
  intro H locs hP hS ls hl2
  obtain ⟨c1, c2, c3, c4, c5, c6, c7, c8, c9, c10, c11, c12, c13, c14⟩ := C
  exact va_mmax c1 c2 (by rw [c3, hl2.1, c11]) c4 (c5 _ h1) (c5 _ h2) (c5 _ h3) (c5 _ h4) (by rw [c12]; exact hf) (by rw [c12]; exact hloc) (by rw [c12]; exact c13) (by rw [c12]; exact c14) hd (kk H locs hP hS ls hl2)
theorem tv_abs (C : tv_C c N X cc own Ts nL rm) {index : Nat} (h1 : Cond.methodLink own index Lib.Math.abs.name ∈ Ts) (h2 : Cond.static Lib.Math.abs.name ∈ Ts) (h3 : Cond.initialized "java/lang/Math" ∈ Ts) (h4 : Cond.code Lib.Math.abs.name Lib.Math.abs.code 1 (some .int) ∈ Ts) (hf : 1 ≤ rm.frames) (hloc : (st.map fun v => v.category).sum + 13 ≤ rm.locals) {x : Int32} (hd : decode cc pc = .ok (.invokestatic index, 3)) (kk : tv_V c N X E (pc + 3) lv (.int (if 0 ≤ x then x else 0 - x) :: st)) : tv_V c N X E pc lv (.int x :: st) := by
  intro H locs hP hS ls hl2
  obtain ⟨c1, c2, c3, c4, c5, c6, c7, c8, c9, c10, c11, c12, c13, c14⟩ := C
  exact va_mabs c1 c2 (by rw [c3, hl2.1, c11]) c4 (c5 _ h1) (c5 _ h2) (c5 _ h3) (c5 _ h4) (by rw [c12]; exact hf) (by rw [c12]; exact hloc) (by rw [c12]; exact c13) (by rw [c12]; exact c14) hd (kk H locs hP hS ls hl2)
theorem tv_copy (C : tv_C c N X cc own Ts nL rm) {index : Nat} (h1 : Cond.methodLink own index arraycopyName ∈ Ts) (h2 : Cond.native arraycopyName ∈ Ts) (h3 : Cond.static arraycopyName ∈ Ts) (h4 : Cond.initialized "java/lang/System" ∈ Ts) (hf : 1 ≤ rm.frames) (hloc : (st.map fun v => v.category).sum + (nativeFrameWords "java/lang/System" "arraycopy" 5 + 11) ≤ rm.locals) (k0 k1 : Nat) (hk0 : k0 < N) (hk1 : k1 < N) {n0 n1 : Nat} {f g : Nat → Int32} (he0 : E k0 = .inl (tv_kk c 0, n0, .inl f)) (he1 : E k1 = .inl (tv_kk c 0, n1, .inl g)) {sp dp n : Int32} (a b d : Nat) (ha : sp = nI a) (hb : dp = nI b) (hn : n = nI d) (hs0 : a + d ≤ n0) (hs1 : b + d ≤ n1) (hn0 : n0 < 2 ^ 31) (hn1 : n1 < 2 ^ 31) {E' : Nat → va_E} (hE : va_up E k1 (.inl (tv_kk c 0, n1, .inl (va_cpy f g a b d))) = E') (hd : decode cc pc = .ok (.invokestatic index, 3)) (kk : tv_V c N X E' (pc + 3) lv st) : tv_V c N X E pc lv (.int n :: .int dp :: .ref (tv_ad c k1) :: .int sp :: .ref (tv_ad c k0) :: st) := by
  intro H locs hP hS ls hl2
  obtain ⟨c1, c2, c3, c4, c5, c6, c7, c8, c9, c10, c11, c12, c13, c14⟩ := C
  subst ha hb hn
  have ea : (nI a).toNatClampNeg = a := nI_clamp (by omega)
  have eb : (nI b).toNatClampNeg = b := nI_clamp (by omega)
  have ed : (nI d).toNatClampNeg = d := nI_clamp (by omega)
  refine va_copyi (D := tv_D c) (ty := .int) c1 c2 (by rw [c3, hl2.1, c11]) c4 (c5 _ h1) (c5 _ h2) (c5 _ h3) (c5 _ h4) c6 hP (c7 E) hS k0 k1 0 0 ((tv_wl_get hk0).trans (by rw [he0])) ((tv_wl_get hk1).trans (by rw [he1])) rfl rfl rfl (nI_pos (by omega)) (nI_pos (by omega)) (nI_pos (by omega)) (by rw [ea, ed]; exact hs0) (by rw [eb, ed]; exact hs1) (fun _ _ => rfl) (by rw [c12]; exact hf) (by rw [c12]; exact hloc) hd (fun H1 locs1 hP1 _ hS1 => kk H1 locs1 ?_ hS1 ls hl2)
  rw [ea, eb, ed] at hP1
  rw [← hE, ← tv_wl_set]
  exact hP1
end TV
theorem tv_AA.of {c : tv_c} {N : Nat} {A : Nat → Prop} {H0 H : Heap} {locs : List Loc} (h7 : ∀ E, va_D A (tv_wl N (tv_ad c) E)) (h8 : ∀ q : Nat, H0.size ≤ q → A q) (hS : va_S A H0 H locs) : ∀ q, tv_AA N (tv_ad c) H.size q → A q := by
  intro q h
  rcases h with ⟨k, hk, rfl⟩ | h
  · exact (h7 (fun _ => .inr (0, []))).2 k _ (tv_wl_get hk)
  · exact h8 q (Nat.le_trans hS.1 h)
theorem tv_D.of {N : Nat} {ad : Nat → Nat} {sz : Nat} (hJ : tv_inj N ad) (E : Nat → va_E) : va_D (tv_AA N ad sz) (tv_wl N ad E) := by
  refine ⟨fun i j p q hi hj hpq => ?_, fun k q hk => ?_⟩
  · obtain ⟨h1, rfl⟩ := tv_wl_some hi
    obtain ⟨h2, rfl⟩ := tv_wl_some hj
    exact hJ i j h1 h2 hpq
  · obtain ⟨h1, rfl⟩ := tv_wl_some hk
    exact Or.inl ⟨k, h1, rfl⟩
section TVC
variable {c : tv_c} {N : Nat} {X : tv_X} {cc : ByteArray} {own : String} {Ts : List Cond} {nL : Nat} {rm : Room} {E : Nat → va_E} {pc : Nat} {lv : List (Nat × Value)} {st : List Value}
  {y : MethodName} {ws ws' : List Cond} {rm' : Room} {bytes : ByteArray} {maxL n index : Nat} {ret : Option FieldType} {As rest : List Value} {cn : String} {T : u_T} {Nf ci : Nat} {fs : List Value}
theorem tv_pre {H : Heap} (C : tv_C c N X cc own Ts nL rm) (hP : va_P (tv_D c) vwCl (tv_wl N (tv_ad c) E) H) (U : State) (hU : U.heap = H) (hW : (tv_xs X).WarmedH U.vm) : tv_in c N E H.size U := by
  obtain ⟨c1, c2, c3, c4, c5, c6, c7, c8, c9, c10, c11, c12, c13, c14⟩ := C
  exact ⟨by rw [hU], by rw [hU]; exact hP, va_K.moved hW.alike c6, c9.warm hW, c10⟩
theorem tv_calli {P : Int32 → (Nat → va_E) → Prop} (C : tv_C c N X cc own Ts nL rm) (b : Nat) (hM : tv_Mi c N y ws rm' (.ref (tv_ad c b) :: As) E P) (hg : GoodIn Ts (wsV own index cn y ws)) (hw : ws = Cond.code y bytes maxL ret :: ws') (hd2 : y.cls = cn ∧ y.cls ≠ "java/lang/invoke/MethodHandle" ∧ y.cls ≠ "java/lang/invoke/VarHandle" ∧ (parseMethodDescriptor y.desc).map (fun d => d.parameters.length) = some n) (hrc : rm'.cells = 0 ∧ rm'.slots = 0) (hR : rm'.frames + 1 ≤ rm.frames ∧ 8 + (maxL + 11) + rm'.locals ≤ rm.locals) (hb : b < N) (he : E b = .inr (ci, fs)) (hc : vwCl[ci]? = some (cn, T, Nf)) (hn : As.length = n) (hst : st = As.reverse ++ .ref (tv_ad c b) :: rest) (hcat : (rest.map fun v => v.category).sum ≤ 8) (hd : decode cc pc = .ok (.invokevirtual index, 3)) (kk : ∀ r u, P r u → tv_V c N X u (pc + 3) lv (.int r :: rest)) : tv_V c N X E pc lv st := by
  intro H locs hP hS ls hl2
  subst hst
  have C0 := C
  obtain ⟨c1, c2, c3, c4, c5, c6, c7, c8, c9, c10, c11, c12, c13, c14⟩ := C
  have hF := tv_AA.of c7 c8 hS
  refine va_calli (va_runV (As := As) (rest := rest) ⟨c1, c2, c3, c4, c5⟩ (hM H.size) (cwV n c5 hg hw hrc.1 hrc.2 hd2 (by rw [c12]; exact hR)) ⟨tv_in.blind, va_recv c6 hP hc ((tv_wl_get hb).trans (by rw [he])), fun U hU hW => ⟨rfl, tv_pre C0 hP U hU hW⟩⟩ rfl hn (hl2.1.trans c11) rfl (lv_room hcat) hd ⟨by rw [c12]; exact c13, by rw [c12]; exact c14⟩) hS (fun q _ h => hF q h) hF (fun r u t H1 locs1 ht hvm hw hB hz1 hk1 hS1 => ?_)
  exact kk r u hw H1 locs1 (by rw [← ht]; exact hB) hS1 ls hl2
theorem tv_calll {P : Int64 → (Nat → va_E) → Prop} (C : tv_C c N X cc own Ts nL rm) (b : Nat) (hM : tv_Ml c N y ws rm' (.ref (tv_ad c b) :: As) E P) (hg : GoodIn Ts (wsV own index cn y ws)) (hw : ws = Cond.code y bytes maxL ret :: ws') (hd2 : y.cls = cn ∧ y.cls ≠ "java/lang/invoke/MethodHandle" ∧ y.cls ≠ "java/lang/invoke/VarHandle" ∧ (parseMethodDescriptor y.desc).map (fun d => d.parameters.length) = some n) (hrc : rm'.cells = 0 ∧ rm'.slots = 0) (hR : rm'.frames + 1 ≤ rm.frames ∧ 8 + (maxL + 11) + rm'.locals ≤ rm.locals) (hb : b < N) (he : E b = .inr (ci, fs)) (hc : vwCl[ci]? = some (cn, T, Nf)) (hn : As.length = n) (hst : st = As.reverse ++ .ref (tv_ad c b) :: rest) (hcat : (rest.map fun v => v.category).sum ≤ 8) (hd : decode cc pc = .ok (.invokevirtual index, 3)) (kk : ∀ r u, P r u → tv_V c N X u (pc + 3) lv (.long r :: rest)) : tv_V c N X E pc lv st := by
  intro H locs hP hS ls hl2
  subst hst
  have C0 := C
  obtain ⟨c1, c2, c3, c4, c5, c6, c7, c8, c9, c10, c11, c12, c13, c14⟩ := C
  have hF := tv_AA.of c7 c8 hS
  refine va_calll (va_runV (As := As) (rest := rest) ⟨c1, c2, c3, c4, c5⟩ (hM H.size) (cwV n c5 hg hw hrc.1 hrc.2 hd2 (by rw [c12]; exact hR)) ⟨tv_in.blind, va_recv c6 hP hc ((tv_wl_get hb).trans (by rw [he])), fun U hU hW => ⟨rfl, tv_pre C0 hP U hU hW⟩⟩ rfl hn (hl2.1.trans c11) rfl (lv_room hcat) hd ⟨by rw [c12]; exact c13, by rw [c12]; exact c14⟩) hS (fun q _ h => hF q h) hF (fun r u t H1 locs1 ht hvm hw hB hz1 hk1 hS1 => ?_)
  exact kk r u hw H1 locs1 (by rw [← ht]; exact hB) hS1 ls hl2
theorem tv_callv {P : (Nat → va_E) → Prop} (C : tv_C c N X cc own Ts nL rm) (b : Nat) (hM : tv_Mv c N y ws rm' (.ref (tv_ad c b) :: As) E P) (hg : GoodIn Ts (wsV own index cn y ws)) (hw : ws = Cond.code y bytes maxL ret :: ws') (hd2 : y.cls = cn ∧ y.cls ≠ "java/lang/invoke/MethodHandle" ∧ y.cls ≠ "java/lang/invoke/VarHandle" ∧ (parseMethodDescriptor y.desc).map (fun d => d.parameters.length) = some n) (hrc : rm'.cells = 0 ∧ rm'.slots = 0) (hR : rm'.frames + 1 ≤ rm.frames ∧ 8 + (maxL + 11) + rm'.locals ≤ rm.locals) (hb : b < N) (he : E b = .inr (ci, fs)) (hc : vwCl[ci]? = some (cn, T, Nf)) (hn : As.length = n) (hst : st = As.reverse ++ .ref (tv_ad c b) :: rest) (hcat : (rest.map fun v => v.category).sum ≤ 8) (hd : decode cc pc = .ok (.invokevirtual index, 3)) (kk : ∀ u, P u → tv_V c N X u (pc + 3) lv rest) : tv_V c N X E pc lv st := by
  intro H locs hP hS ls hl2
  subst hst
  have C0 := C
  obtain ⟨c1, c2, c3, c4, c5, c6, c7, c8, c9, c10, c11, c12, c13, c14⟩ := C
  have hF := tv_AA.of c7 c8 hS
  refine va_callv (va_runV (As := As) (rest := rest) ⟨c1, c2, c3, c4, c5⟩ (hM H.size) (cwV n c5 hg hw hrc.1 hrc.2 hd2 (by rw [c12]; exact hR)) ⟨tv_in.blind, va_recv c6 hP hc ((tv_wl_get hb).trans (by rw [he])), fun U hU hW => ⟨rfl, tv_pre C0 hP U hU hW⟩⟩ rfl hn (hl2.1.trans c11) rfl (lv_room hcat) hd ⟨by rw [c12]; exact c13, by rw [c12]; exact c14⟩) hS (fun q _ h => hF q h) hF (fun u t H1 locs1 ht hvm hw hB hz1 hk1 hS1 => ?_)
  exact kk u hw H1 locs1 (by rw [← ht]; exact hB) hS1 ls hl2
theorem tv_callr {P : (Nat → va_E) → Prop} (C : tv_C c N X cc own Ts nL rm) (b : Nat) {d : Nat} (hM : tv_Mr c N y ws rm' (.ref (tv_ad c b) :: As) E d P) (hg : GoodIn Ts (wsV own index cn y ws)) (hw : ws = Cond.code y bytes maxL ret :: ws') (hd2 : y.cls = cn ∧ y.cls ≠ "java/lang/invoke/MethodHandle" ∧ y.cls ≠ "java/lang/invoke/VarHandle" ∧ (parseMethodDescriptor y.desc).map (fun d => d.parameters.length) = some n) (hrc : rm'.cells = 0 ∧ rm'.slots = 0) (hR : rm'.frames + 1 ≤ rm.frames ∧ 8 + (maxL + 11) + rm'.locals ≤ rm.locals) (hb : b < N) (he : E b = .inr (ci, fs)) (hc : vwCl[ci]? = some (cn, T, Nf)) (hn : As.length = n) (hst : st = As.reverse ++ .ref (tv_ad c b) :: rest) (hcat : (rest.map fun v => v.category).sum ≤ 8) (hd : decode cc pc = .ok (.invokevirtual index, 3)) (kk : ∀ u, P u → tv_V c N X u (pc + 3) lv (.ref (tv_ad c d) :: rest)) : tv_V c N X E pc lv st := by
  intro H locs hP hS ls hl2
  subst hst
  have C0 := C
  obtain ⟨c1, c2, c3, c4, c5, c6, c7, c8, c9, c10, c11, c12, c13, c14⟩ := C
  have hF := tv_AA.of c7 c8 hS
  refine va_callr (va_runV (As := As) (rest := rest) ⟨c1, c2, c3, c4, c5⟩ (hM H.size) (cwV n c5 hg hw hrc.1 hrc.2 hd2 (by rw [c12]; exact hR)) ⟨tv_in.blind, va_recv c6 hP hc ((tv_wl_get hb).trans (by rw [he])), fun U hU hW => ⟨rfl, tv_pre C0 hP U hU hW⟩⟩ rfl hn (hl2.1.trans c11) rfl (lv_room hcat) hd ⟨by rw [c12]; exact c13, by rw [c12]; exact c14⟩) hS (fun q _ h => hF q h) hF (fun u ra t H1 locs1 ht hvm hw hB hz1 hk1 hS1 => ?_)
  obtain ⟨rfl, hB⟩ := hB
  exact kk u hw H1 locs1 (by rw [← ht]; exact hB) hS1 ls hl2
theorem tv_callis {P : Int32 → (Nat → va_E) → Prop} (C : tv_C c N X cc own Ts nL rm) (hM : tv_Mi c N y ws rm' As E P) (hg : GoodIn Ts (wsS own index y ws)) (hw : ws = Cond.code y bytes maxL ret :: ws') (hd2 : y.cls = own ∧ y.cls ≠ "java/lang/invoke/MethodHandle" ∧ y.cls ≠ "java/lang/invoke/VarHandle" ∧ (parseMethodDescriptor y.desc).map (fun d => d.parameters.length) = some n) (hrc : rm'.cells = 0 ∧ rm'.slots = 0) (hR : rm'.frames + 1 ≤ rm.frames ∧ 8 + (maxL + 11) + rm'.locals ≤ rm.locals) (hn : As.length = n) (hst : st = As.reverse ++ rest) (hcat : (rest.map fun v => v.category).sum ≤ 8) (hd : decode cc pc = .ok (.invokestatic index, 3)) (kk : ∀ r u, P r u → tv_V c N X u (pc + 3) lv (.int r :: rest)) : tv_V c N X E pc lv st := by
  intro H locs hP hS ls hl2
  subst hst
  have C0 := C
  obtain ⟨c1, c2, c3, c4, c5, c6, c7, c8, c9, c10, c11, c12, c13, c14⟩ := C
  have hF := tv_AA.of c7 c8 hS
  refine va_calli (va_runS (As := As) (rest := rest) ⟨c1, c2, c3, c4, c5⟩ (hM H.size) (cwS n c5 hg hw hrc.1 hrc.2 hd2 (by rw [c12]; exact hR)) ⟨tv_in.blind, fun U hU hW => ⟨rfl, tv_pre C0 hP U hU hW⟩⟩ rfl hn (hl2.1.trans c11) rfl (lv_room hcat) hd ⟨by rw [c12]; exact c13, by rw [c12]; exact c14⟩) hS (fun q _ h => hF q h) hF (fun r u t H1 locs1 ht hvm hw hB hz1 hk1 hS1 => ?_)
  exact kk r u hw H1 locs1 (by rw [← ht]; exact hB) hS1 ls hl2
/-- a nest mate's static method -/
theorem tv_callisN {P : Int32 → (Nat → va_E) → Prop} {host : String} (C : tv_C c N X cc own Ts nL rm) (hM : tv_Mi c N y ws rm' As E P) (hg : GoodIn Ts ws) (hw : ws = Cond.code y bytes maxL ret :: ws') (hl : tv_N (tv_xs X) → va_Nw (.methodLinkNest own index y host) (tv_xs X)) (hini : Cond.initialized y.cls ∈ Ts) (hsta : Cond.static y ∈ Ts) (hd2 : y.cls ≠ "java/lang/invoke/MethodHandle" ∧ y.cls ≠ "java/lang/invoke/VarHandle" ∧ (parseMethodDescriptor y.desc).map (fun d => d.parameters.length) = some n) (hrc : rm'.cells = 0 ∧ rm'.slots = 0) (hR : rm'.frames + 1 ≤ rm.frames ∧ 8 + (maxL + 11) + rm'.locals ≤ rm.locals) (hn : As.length = n) (hst : st = As.reverse ++ rest) (hcat : (rest.map fun v => v.category).sum ≤ 8) (hd : decode cc pc = .ok (.invokestatic index, 3)) (kk : ∀ r u, P r u → tv_V c N X u (pc + 3) lv (.int r :: rest)) : tv_V c N X E pc lv st := by
  intro H locs hP hS ls hl2
  subst hst
  have C0 := C
  obtain ⟨c1, c2, c3, c4, c5, c6, c7, c8, c9, c10, c11, c12, c13, c14⟩ := C
  have hF := tv_AA.of c7 c8 hS
  refine va_calli (va_runSN (As := As) (rest := rest) ⟨c1, c2, c3, c4, c5⟩ (hM H.size) ⟨va_cnB n c5 hg hw hrc.1 hrc.2 (hl c9) (c5 _ hini) hd2 (by rw [c12]; exact hR), c5 _ hsta, trivial⟩ ⟨tv_in.blind, fun U hU hW => ⟨rfl, tv_pre C0 hP U hU hW⟩⟩ rfl hn (hl2.1.trans c11) rfl (lv_room hcat) hd ⟨by rw [c12]; exact c13, by rw [c12]; exact c14⟩) hS (fun q _ h => hF q h) hF (fun r u t H1 locs1 ht hvm hw hB hz1 hk1 hS1 => ?_)
  exact kk r u hw H1 locs1 (by rw [← ht]; exact hB) hS1 ls hl2
end TVC
/-- the ends, and a method's contract out of its walk -/
def tv_Ri (c : tv_c) (N : Nat) (X : tv_X) (cc : ByteArray) (P : Int32 → (Nat → va_E) → Prop) : Prop := ∀ (E : Nat → va_E) (pc : Nat) (lv : List (Nat × Value)) (r : Int32), decode cc pc = .ok (.ireturn, 1) → P r E → tv_V c N X E pc lv [.int r]
def tv_Rz (c : tv_c) (N : Nat) (X : tv_X) (cc : ByteArray) (P : Int32 → (Nat → va_E) → Prop) : Prop := ∀ (E : Nat → va_E) (pc : Nat) (lv : List (Nat × Value)) (r : Int32), decode cc pc = .ok (.ireturn, 1) → narrow .boolean (.int r) = .int r → P r E → tv_V c N X E pc lv [.int r]
def tv_Rl (c : tv_c) (N : Nat) (X : tv_X) (cc : ByteArray) (P : Int64 → (Nat → va_E) → Prop) : Prop := ∀ (E : Nat → va_E) (pc : Nat) (lv : List (Nat × Value)) (r : Int64), decode cc pc = .ok (.lreturn, 1) → P r E → tv_V c N X E pc lv [.long r]
def tv_Rv (c : tv_c) (N : Nat) (X : tv_X) (cc : ByteArray) (P : (Nat → va_E) → Prop) : Prop := ∀ (E : Nat → va_E) (pc : Nat) (lv : List (Nat × Value)), decode cc pc = .ok (.return_, 1) → P E → tv_V c N X E pc lv []
def tv_Rr (c : tv_c) (N : Nat) (X : tv_X) (cc : ByteArray) (b : Nat) (P : (Nat → va_E) → Prop) : Prop := ∀ (E : Nat → va_E) (pc : Nat) (lv : List (Nat × Value)), decode cc pc = .ok (.areturn, 1) → P E → tv_V c N X E pc lv [.ref (tv_ad c b)]
section TVM
variable {c : tv_c} {N : Nat} {y : MethodName} {ws ws' : List Cond} {rm : Room} {cc : ByteArray} {maxL : Nat} {own : String} {av : List Value} {E : Nat → va_E}
theorem tv_metI {P : Int32 → (Nat → va_E) → Prop} (hy : plainName y.cls = true) (hw : ws = Cond.code y cc maxL (some .int) :: ws') (hown : y.cls = own) (hloc : (lg_sl av).length ≤ maxL) (body : ∀ X : tv_X, tv_C c N X cc own ws maxL rm → tv_Ri c N X cc P → tv_V c N X E 0 (lv_args 0 av) []) : tv_Mi c N y ws rm av E P := by
  intro sz
  refine Met.ofW (cc := cc) (maxL := maxL) (ret := some .int) hy hw ?_
  intro p e s m args below meth c' s₁ B hml hv
  obtain ⟨rfl, hsz, hP, hK, hN, hJ⟩ := hv
  subst hsz
  have hb := body (p, e, rm, s, m, av.toArray, below, meth, c', MQ below (va_Qi P (tv_out c N) (tv_AA N (tv_ad c) s.heap.size)) av.toArray s 0 0 (tv_AA N (tv_ad c) s.heap.size), tv_AA N (tv_ad c) s.heap.size, maxL, 0, 0)
    ⟨B.exec, B.bytes, hml, hown ▸ findClass_of_methodNamed B.named, atoms_spec (ws := ws) B.pre, hK, tv_D.of hJ, fun q h => Or.inr h, hN, hJ, rfl, rfl, Nat.zero_le _, Nat.zero_le _⟩
    (fun E' pc lv r hd hp H locs hP hS ls hl => W.iret (v := r) B.exec B.bytes B.returns (fun t ht hW => ⟨⟨r, E', rfl, hp, by show va_P _ _ _ _; rw [ht]; exact hP⟩, hS.F ht⟩) hS.2.2 hd (hlocks := B.notSynchronized))
    s.heap [] hP va_S.rf _ (lv_entry av (n := maxL) hloc)
  rw [lg_entry_eq]
  exact hb
theorem tv_metZ {P : Int32 → (Nat → va_E) → Prop} (hy : plainName y.cls = true) (hw : ws = Cond.code y cc maxL (some .boolean) :: ws') (hown : y.cls = own) (hloc : (lg_sl av).length ≤ maxL) (body : ∀ X : tv_X, tv_C c N X cc own ws maxL rm → tv_Rz c N X cc P → tv_V c N X E 0 (lv_args 0 av) []) : tv_Mi c N y ws rm av E P := by
  intro sz
  refine Met.ofW (cc := cc) (maxL := maxL) (ret := some .boolean) hy hw ?_
  intro p e s m args below meth c' s₁ B hml hv
  obtain ⟨rfl, hsz, hP, hK, hN, hJ⟩ := hv
  subst hsz
  have hb := body (p, e, rm, s, m, av.toArray, below, meth, c', MQ below (va_Qi P (tv_out c N) (tv_AA N (tv_ad c) s.heap.size)) av.toArray s 0 0 (tv_AA N (tv_ad c) s.heap.size), tv_AA N (tv_ad c) s.heap.size, maxL, 0, 0)
    ⟨B.exec, B.bytes, hml, hown ▸ findClass_of_methodNamed B.named, atoms_spec (ws := ws) B.pre, hK, tv_D.of hJ, fun q h => Or.inr h, hN, hJ, rfl, rfl, Nat.zero_le _, Nat.zero_le _⟩
    (fun E' pc lv r hd hn hp H locs hP hS ls hl => W.zret (v := r) B.exec B.bytes B.returns hn (fun t ht hW => ⟨⟨r, E', rfl, hp, by show va_P _ _ _ _; rw [ht]; exact hP⟩, hS.F ht⟩) hS.2.2 hd (hlocks := B.notSynchronized))
    s.heap [] hP va_S.rf _ (lv_entry av (n := maxL) hloc)
  rw [lg_entry_eq]
  exact hb
theorem tv_metL {P : Int64 → (Nat → va_E) → Prop} (hy : plainName y.cls = true) (hw : ws = Cond.code y cc maxL (some .long) :: ws') (hown : y.cls = own) (hloc : (lg_sl av).length ≤ maxL) (body : ∀ X : tv_X, tv_C c N X cc own ws maxL rm → tv_Rl c N X cc P → tv_V c N X E 0 (lv_args 0 av) []) : tv_Ml c N y ws rm av E P := by
  intro sz
  refine Met.ofW (cc := cc) (maxL := maxL) (ret := some .long) hy hw ?_
  intro p e s m args below meth c' s₁ B hml hv
  obtain ⟨rfl, hsz, hP, hK, hN, hJ⟩ := hv
  subst hsz
  have hb := body (p, e, rm, s, m, av.toArray, below, meth, c', MQ below (va_Ql P (tv_out c N) (tv_AA N (tv_ad c) s.heap.size)) av.toArray s 0 0 (tv_AA N (tv_ad c) s.heap.size), tv_AA N (tv_ad c) s.heap.size, maxL, 0, 0)
    ⟨B.exec, B.bytes, hml, hown ▸ findClass_of_methodNamed B.named, atoms_spec (ws := ws) B.pre, hK, tv_D.of hJ, fun q h => Or.inr h, hN, hJ, rfl, rfl, Nat.zero_le _, Nat.zero_le _⟩
    (fun E' pc lv r hd hp H locs hP hS ls hl => W.lret (v := r) B.exec B.bytes B.returns (fun t ht hW => ⟨⟨r, E', rfl, hp, by show va_P _ _ _ _; rw [ht]; exact hP⟩, hS.F ht⟩) hS.2.2 hd (hlocks := B.notSynchronized))
    s.heap [] hP va_S.rf _ (lv_entry av (n := maxL) hloc)
  rw [lg_entry_eq]
  exact hb
theorem tv_metV {P : (Nat → va_E) → Prop} (hy : plainName y.cls = true) (hw : ws = Cond.code y cc maxL none :: ws') (hown : y.cls = own) (hloc : (lg_sl av).length ≤ maxL) (body : ∀ X : tv_X, tv_C c N X cc own ws maxL rm → tv_Rv c N X cc P → tv_V c N X E 0 (lv_args 0 av) []) : tv_Mv c N y ws rm av E P := by
  intro sz
  refine Met.ofW (cc := cc) (maxL := maxL) (ret := none) hy hw ?_
  intro p e s m args below meth c' s₁ B hml hv
  obtain ⟨rfl, hsz, hP, hK, hN, hJ⟩ := hv
  subst hsz
  have hb := body (p, e, rm, s, m, av.toArray, below, meth, c', MQ below (va_Qv P (tv_out c N) (tv_AA N (tv_ad c) s.heap.size)) av.toArray s 0 0 (tv_AA N (tv_ad c) s.heap.size), tv_AA N (tv_ad c) s.heap.size, maxL, 0, 0)
    ⟨B.exec, B.bytes, hml, hown ▸ findClass_of_methodNamed B.named, atoms_spec (ws := ws) B.pre, hK, tv_D.of hJ, fun q h => Or.inr h, hN, hJ, rfl, rfl, Nat.zero_le _, Nat.zero_le _⟩
    (fun E' pc lv hd hp H locs hP hS ls hl => W.vret B.exec B.bytes B.returns (fun t ht hW => ⟨⟨E', rfl, hp, by show va_P _ _ _ _; rw [ht]; exact hP⟩, hS.F ht⟩) hS.2.2 hd (hlocks := B.notSynchronized))
    s.heap [] hP va_S.rf _ (lv_entry av (n := maxL) hloc)
  rw [lg_entry_eq]
  exact hb
theorem tv_metR {P : (Nat → va_E) → Prop} {b : Nat} {rt : String} (hy : plainName y.cls = true) (hw : ws = Cond.code y cc maxL (some (.object rt)) :: ws') (hown : y.cls = own) (hloc : (lg_sl av).length ≤ maxL) (body : ∀ X : tv_X, tv_C c N X cc own ws maxL rm → tv_Rr c N X cc b P → tv_V c N X E 0 (lv_args 0 av) []) : tv_Mr c N y ws rm av E b P := by
  intro sz
  refine Met.ofW (cc := cc) (maxL := maxL) (ret := some (.object rt)) hy hw ?_
  intro p e s m args below meth c' s₁ B hml hv
  obtain ⟨rfl, hsz, hP, hK, hN, hJ⟩ := hv
  subst hsz
  have hb := body (p, e, rm, s, m, av.toArray, below, meth, c', MQ below (va_Qr P (fun u a t => a = tv_ad c b ∧ tv_out c N u t) (tv_AA N (tv_ad c) s.heap.size)) av.toArray s 0 0 (tv_AA N (tv_ad c) s.heap.size), tv_AA N (tv_ad c) s.heap.size, maxL, 0, 0)
    ⟨B.exec, B.bytes, hml, hown ▸ findClass_of_methodNamed B.named, atoms_spec (ws := ws) B.pre, hK, tv_D.of hJ, fun q h => Or.inr h, hN, hJ, rfl, rfl, Nat.zero_le _, Nat.zero_le _⟩
    (fun E' pc lv hd hp H locs hP hS ls hl => W.aret (v := .ref (tv_ad c b)) B.exec B.bytes B.returns (Or.inl ⟨_, rfl⟩) (Or.inr ⟨_, rfl⟩) (fun t ht hW => ⟨⟨E', tv_ad c b, rfl, hp, rfl, by show va_P _ _ _ _; rw [ht]; exact hP⟩, hS.F ht⟩) hS.2.2 hd (hlocks := B.notSynchronized))
    s.heap [] hP va_S.rf _ (lv_entry av (n := maxL) hloc)
  rw [lg_entry_eq]
  exact hb
end TVM
end
section
/-! the worlds: a state is Nat → Nat → Int32 (key, place); keys of the shared state: 0 fault 1 trace 2 high 3 wide 4 year 5 smoke 6 line 7 coats 8 lights 9 count 10 sun 11 coat 12 had 13 air 14 hidden 15 kind 16 bands (3 a coat) 17 weights (3 a light) 18 has 19 sort 20 length 21 cells of sheets (40 a sheet) -/
abbrev ts_T : Type := Nat → Nat → Int32
def ts_a (s : ts_T) (k : Nat) (f : Nat → Int32) : ts_T := fun a => if a = k then f else s a
def ts_s (s : ts_T) (k : Nat) (v : Int32) : ts_T := ts_a s k (fun _ => v)
theorem va_up_s {E : Nat → va_E} {k : Nat} {e : va_E} : va_up E k e k = e := by simp [va_up]
theorem va_up_n {E : Nat → va_E} {k j : Nat} {e : va_E} (h : j ≠ k) : va_up E k e j = E j := by simp [va_up, h]
def eM_f (c : tv_c) (s r : ts_T) : List Value := [.int (s 0 0), .int (s 1 0), .ref (tv_ad c 1), .ref (tv_ad c 2), .ref (tv_ad c 3), .int (s 2 0), .int (s 3 0), .int (s 4 0), .int (s 5 0), .int (s 6 0), .ref (tv_ad c 4), .ref (tv_ad c 5), .ref (tv_ad c 6), .ref (tv_ad c 7), .ref (tv_ad c 8), .int (r 0 0), .int (r 1 0), .int (r 2 0), .ref (tv_ad c 9), .int (s 7 0), .ref (tv_ad c 10), .ref (tv_ad c 11), .int (s 8 0), .ref (tv_ad c 12), .ref (tv_ad c 13), .int (r 5 0), .ref (tv_ad c 14), .int (r 7 0), .ref (tv_ad c 15), .ref (tv_ad c 16), .ref (tv_ad c 17), .ref (tv_ad c 18), .int (r 12 0), .int (r 13 0), .int (r 14 0)]
def eM_so (s : ts_T) : Nat → Int32 := fun k => if s 18 k = 0 then -9 else s 19 k
def eM (c : tv_c) (s r : ts_T) : Nat → va_E := fun k => match k with
  | 0 => .inr (8, eM_f c s r)
  | 1 => .inl (tv_kk c 0, 4, .inl (eM_so s))
  | 2 => .inl (tv_kk c 0, 4, .inl (s 20))
  | 3 => .inl (tv_kk c 0, 160, .inl (s 21))
  | 4 => .inl (tv_kk c 0, 24, .inl (s 10))
  | 5 => .inl (tv_kk c 0, 24, .inl (s 11))
  | 6 => .inl (tv_kk c 0, 24, .inl (s 12))
  | 7 => .inl (tv_kk c 0, 24, .inl (s 13))
  | 8 => .inl (tv_kk c 1, 24, .inl (s 14))
  | 9 => .inl (tv_kk c 0, 24, .inl (r 3))
  | 10 => .inl (tv_kk c 0, 6, .inl (s 15))
  | 11 => .inl (tv_kk c 0, 18, .inl (s 16))
  | 12 => .inl (tv_kk c 0, 12, .inl (s 17))
  | 13 => .inl (tv_kk c 0, 4, .inl (r 4))
  | 14 => .inl (tv_kk c 0, 3, .inl (r 6))
  | 15 => .inl (tv_kk c 0, 4, .inl (r 8))
  | 16 => .inl (tv_kk c 0, 24, .inl (r 9))
  | 17 => .inl (tv_kk c 0, 24, .inl (r 10))
  | 18 => .inl (tv_kk c 0, 24, .inl (r 11))
  | _ => .inr (0, [])
theorem eM_u_fault (c : tv_c) (s r : ts_T) (v : Int32) : va_up (eM c s r) 0 (.inr (8, (eM_f c s r).set 0 (.int v))) = eM c (ts_s s 0 v) r := funext fun k => match k with
  | 0 => rfl
  | 1 => rfl
  | 2 => rfl
  | 3 => rfl
  | 4 => rfl
  | 5 => rfl
  | 6 => rfl
  | 7 => rfl
  | 8 => rfl
  | 9 => rfl
  | 10 => rfl
  | 11 => rfl
  | 12 => rfl
  | 13 => rfl
  | 14 => rfl
  | 15 => rfl
  | 16 => rfl
  | 17 => rfl
  | 18 => rfl
  | _ + 19 => rfl
theorem eM_u_trace (c : tv_c) (s r : ts_T) (v : Int32) : va_up (eM c s r) 0 (.inr (8, (eM_f c s r).set 1 (.int v))) = eM c (ts_s s 1 v) r := funext fun k => match k with
  | 0 => rfl
  | 1 => rfl
  | 2 => rfl
  | 3 => rfl
  | 4 => rfl
  | 5 => rfl
  | 6 => rfl
  | 7 => rfl
  | 8 => rfl
  | 9 => rfl
  | 10 => rfl
  | 11 => rfl
  | 12 => rfl
  | 13 => rfl
  | 14 => rfl
  | 15 => rfl
  | 16 => rfl
  | 17 => rfl
  | 18 => rfl
  | _ + 19 => rfl
theorem eM_u_high (c : tv_c) (s r : ts_T) (v : Int32) : va_up (eM c s r) 0 (.inr (8, (eM_f c s r).set 5 (.int v))) = eM c (ts_s s 2 v) r := funext fun k => match k with
  | 0 => rfl
  | 1 => rfl
  | 2 => rfl
  | 3 => rfl
  | 4 => rfl
  | 5 => rfl
  | 6 => rfl
  | 7 => rfl
  | 8 => rfl
  | 9 => rfl
  | 10 => rfl
  | 11 => rfl
  | 12 => rfl
  | 13 => rfl
  | 14 => rfl
  | 15 => rfl
  | 16 => rfl
  | 17 => rfl
  | 18 => rfl
  | _ + 19 => rfl
theorem eM_u_wide (c : tv_c) (s r : ts_T) (v : Int32) : va_up (eM c s r) 0 (.inr (8, (eM_f c s r).set 6 (.int v))) = eM c (ts_s s 3 v) r := funext fun k => match k with
  | 0 => rfl
  | 1 => rfl
  | 2 => rfl
  | 3 => rfl
  | 4 => rfl
  | 5 => rfl
  | 6 => rfl
  | 7 => rfl
  | 8 => rfl
  | 9 => rfl
  | 10 => rfl
  | 11 => rfl
  | 12 => rfl
  | 13 => rfl
  | 14 => rfl
  | 15 => rfl
  | 16 => rfl
  | 17 => rfl
  | 18 => rfl
  | _ + 19 => rfl
theorem eM_u_year (c : tv_c) (s r : ts_T) (v : Int32) : va_up (eM c s r) 0 (.inr (8, (eM_f c s r).set 7 (.int v))) = eM c (ts_s s 4 v) r := funext fun k => match k with
  | 0 => rfl
  | 1 => rfl
  | 2 => rfl
  | 3 => rfl
  | 4 => rfl
  | 5 => rfl
  | 6 => rfl
  | 7 => rfl
  | 8 => rfl
  | 9 => rfl
  | 10 => rfl
  | 11 => rfl
  | 12 => rfl
  | 13 => rfl
  | 14 => rfl
  | 15 => rfl
  | 16 => rfl
  | 17 => rfl
  | 18 => rfl
  | _ + 19 => rfl
theorem eM_u_smoke (c : tv_c) (s r : ts_T) (v : Int32) : va_up (eM c s r) 0 (.inr (8, (eM_f c s r).set 8 (.int v))) = eM c (ts_s s 5 v) r := funext fun k => match k with
  | 0 => rfl
  | 1 => rfl
  | 2 => rfl
  | 3 => rfl
  | 4 => rfl
  | 5 => rfl
  | 6 => rfl
  | 7 => rfl
  | 8 => rfl
  | 9 => rfl
  | 10 => rfl
  | 11 => rfl
  | 12 => rfl
  | 13 => rfl
  | 14 => rfl
  | 15 => rfl
  | 16 => rfl
  | 17 => rfl
  | 18 => rfl
  | _ + 19 => rfl
theorem eM_u_line (c : tv_c) (s r : ts_T) (v : Int32) : va_up (eM c s r) 0 (.inr (8, (eM_f c s r).set 9 (.int v))) = eM c (ts_s s 6 v) r := funext fun k => match k with
  | 0 => rfl
  | 1 => rfl
  | 2 => rfl
  | 3 => rfl
  | 4 => rfl
  | 5 => rfl
  | 6 => rfl
  | 7 => rfl
  | 8 => rfl
  | 9 => rfl
  | 10 => rfl
  | 11 => rfl
  | 12 => rfl
  | 13 => rfl
  | 14 => rfl
  | 15 => rfl
  | 16 => rfl
  | 17 => rfl
  | 18 => rfl
  | _ + 19 => rfl
theorem eM_u_at (c : tv_c) (s r : ts_T) (v : Int32) : va_up (eM c s r) 0 (.inr (8, (eM_f c s r).set 15 (.int v))) = eM c s (ts_s r 0 v) := funext fun k => match k with
  | 0 => rfl
  | 1 => rfl
  | 2 => rfl
  | 3 => rfl
  | 4 => rfl
  | 5 => rfl
  | 6 => rfl
  | 7 => rfl
  | 8 => rfl
  | 9 => rfl
  | 10 => rfl
  | 11 => rfl
  | 12 => rfl
  | 13 => rfl
  | 14 => rfl
  | 15 => rfl
  | 16 => rfl
  | 17 => rfl
  | 18 => rfl
  | _ + 19 => rfl
theorem eM_u_readHigh (c : tv_c) (s r : ts_T) (v : Int32) : va_up (eM c s r) 0 (.inr (8, (eM_f c s r).set 16 (.int v))) = eM c s (ts_s r 1 v) := funext fun k => match k with
  | 0 => rfl
  | 1 => rfl
  | 2 => rfl
  | 3 => rfl
  | 4 => rfl
  | 5 => rfl
  | 6 => rfl
  | 7 => rfl
  | 8 => rfl
  | 9 => rfl
  | 10 => rfl
  | 11 => rfl
  | 12 => rfl
  | 13 => rfl
  | 14 => rfl
  | 15 => rfl
  | 16 => rfl
  | 17 => rfl
  | 18 => rfl
  | _ + 19 => rfl
theorem eM_u_readWide (c : tv_c) (s r : ts_T) (v : Int32) : va_up (eM c s r) 0 (.inr (8, (eM_f c s r).set 17 (.int v))) = eM c s (ts_s r 2 v) := funext fun k => match k with
  | 0 => rfl
  | 1 => rfl
  | 2 => rfl
  | 3 => rfl
  | 4 => rfl
  | 5 => rfl
  | 6 => rfl
  | 7 => rfl
  | 8 => rfl
  | 9 => rfl
  | 10 => rfl
  | 11 => rfl
  | 12 => rfl
  | 13 => rfl
  | 14 => rfl
  | 15 => rfl
  | 16 => rfl
  | 17 => rfl
  | 18 => rfl
  | _ + 19 => rfl
theorem eM_u_coats (c : tv_c) (s r : ts_T) (v : Int32) : va_up (eM c s r) 0 (.inr (8, (eM_f c s r).set 19 (.int v))) = eM c (ts_s s 7 v) r := funext fun k => match k with
  | 0 => rfl
  | 1 => rfl
  | 2 => rfl
  | 3 => rfl
  | 4 => rfl
  | 5 => rfl
  | 6 => rfl
  | 7 => rfl
  | 8 => rfl
  | 9 => rfl
  | 10 => rfl
  | 11 => rfl
  | 12 => rfl
  | 13 => rfl
  | 14 => rfl
  | 15 => rfl
  | 16 => rfl
  | 17 => rfl
  | 18 => rfl
  | _ + 19 => rfl
theorem eM_u_lights (c : tv_c) (s r : ts_T) (v : Int32) : va_up (eM c s r) 0 (.inr (8, (eM_f c s r).set 22 (.int v))) = eM c (ts_s s 8 v) r := funext fun k => match k with
  | 0 => rfl
  | 1 => rfl
  | 2 => rfl
  | 3 => rfl
  | 4 => rfl
  | 5 => rfl
  | 6 => rfl
  | 7 => rfl
  | 8 => rfl
  | 9 => rfl
  | 10 => rfl
  | 11 => rfl
  | 12 => rfl
  | 13 => rfl
  | 14 => rfl
  | 15 => rfl
  | 16 => rfl
  | 17 => rfl
  | 18 => rfl
  | _ + 19 => rfl
theorem eM_u_mixKind (c : tv_c) (s r : ts_T) (v : Int32) : va_up (eM c s r) 0 (.inr (8, (eM_f c s r).set 25 (.int v))) = eM c s (ts_s r 5 v) := funext fun k => match k with
  | 0 => rfl
  | 1 => rfl
  | 2 => rfl
  | 3 => rfl
  | 4 => rfl
  | 5 => rfl
  | 6 => rfl
  | 7 => rfl
  | 8 => rfl
  | 9 => rfl
  | 10 => rfl
  | 11 => rfl
  | 12 => rfl
  | 13 => rfl
  | 14 => rfl
  | 15 => rfl
  | 16 => rfl
  | 17 => rfl
  | 18 => rfl
  | _ + 19 => rfl
theorem eM_u_bestUnlike (c : tv_c) (s r : ts_T) (v : Int32) : va_up (eM c s r) 0 (.inr (8, (eM_f c s r).set 27 (.int v))) = eM c s (ts_s r 7 v) := funext fun k => match k with
  | 0 => rfl
  | 1 => rfl
  | 2 => rfl
  | 3 => rfl
  | 4 => rfl
  | 5 => rfl
  | 6 => rfl
  | 7 => rfl
  | 8 => rfl
  | 9 => rfl
  | 10 => rfl
  | 11 => rfl
  | 12 => rfl
  | 13 => rfl
  | 14 => rfl
  | 15 => rfl
  | 16 => rfl
  | 17 => rfl
  | 18 => rfl
  | _ + 19 => rfl
theorem eM_u_patchMany (c : tv_c) (s r : ts_T) (v : Int32) : va_up (eM c s r) 0 (.inr (8, (eM_f c s r).set 32 (.int v))) = eM c s (ts_s r 12 v) := funext fun k => match k with
  | 0 => rfl
  | 1 => rfl
  | 2 => rfl
  | 3 => rfl
  | 4 => rfl
  | 5 => rfl
  | 6 => rfl
  | 7 => rfl
  | 8 => rfl
  | 9 => rfl
  | 10 => rfl
  | 11 => rfl
  | 12 => rfl
  | 13 => rfl
  | 14 => rfl
  | 15 => rfl
  | 16 => rfl
  | 17 => rfl
  | 18 => rfl
  | _ + 19 => rfl
theorem eM_u_patchFirst (c : tv_c) (s r : ts_T) (v : Int32) : va_up (eM c s r) 0 (.inr (8, (eM_f c s r).set 33 (.int v))) = eM c s (ts_s r 13 v) := funext fun k => match k with
  | 0 => rfl
  | 1 => rfl
  | 2 => rfl
  | 3 => rfl
  | 4 => rfl
  | 5 => rfl
  | 6 => rfl
  | 7 => rfl
  | 8 => rfl
  | 9 => rfl
  | 10 => rfl
  | 11 => rfl
  | 12 => rfl
  | 13 => rfl
  | 14 => rfl
  | 15 => rfl
  | 16 => rfl
  | 17 => rfl
  | 18 => rfl
  | _ + 19 => rfl
theorem eM_u_patchLast (c : tv_c) (s r : ts_T) (v : Int32) : va_up (eM c s r) 0 (.inr (8, (eM_f c s r).set 34 (.int v))) = eM c s (ts_s r 14 v) := funext fun k => match k with
  | 0 => rfl
  | 1 => rfl
  | 2 => rfl
  | 3 => rfl
  | 4 => rfl
  | 5 => rfl
  | 6 => rfl
  | 7 => rfl
  | 8 => rfl
  | 9 => rfl
  | 10 => rfl
  | 11 => rfl
  | 12 => rfl
  | 13 => rfl
  | 14 => rfl
  | 15 => rfl
  | 16 => rfl
  | 17 => rfl
  | 18 => rfl
  | _ + 19 => rfl
theorem eM_u_sheetLong (c : tv_c) (s r : ts_T) (f : Nat → Int32) : va_up (eM c s r) 2 (.inl (tv_kk c 0, 4, .inl f)) = eM c (ts_a s 20 f) r := funext fun k => match k with
  | 0 => rfl
  | 1 => rfl
  | 2 => rfl
  | 3 => rfl
  | 4 => rfl
  | 5 => rfl
  | 6 => rfl
  | 7 => rfl
  | 8 => rfl
  | 9 => rfl
  | 10 => rfl
  | 11 => rfl
  | 12 => rfl
  | 13 => rfl
  | 14 => rfl
  | 15 => rfl
  | 16 => rfl
  | 17 => rfl
  | 18 => rfl
  | _ + 19 => rfl
theorem eM_u_cells (c : tv_c) (s r : ts_T) (f : Nat → Int32) : va_up (eM c s r) 3 (.inl (tv_kk c 0, 160, .inl f)) = eM c (ts_a s 21 f) r := funext fun k => match k with
  | 0 => rfl
  | 1 => rfl
  | 2 => rfl
  | 3 => rfl
  | 4 => rfl
  | 5 => rfl
  | 6 => rfl
  | 7 => rfl
  | 8 => rfl
  | 9 => rfl
  | 10 => rfl
  | 11 => rfl
  | 12 => rfl
  | 13 => rfl
  | 14 => rfl
  | 15 => rfl
  | 16 => rfl
  | 17 => rfl
  | 18 => rfl
  | _ + 19 => rfl
theorem eM_u_sun (c : tv_c) (s r : ts_T) (f : Nat → Int32) : va_up (eM c s r) 4 (.inl (tv_kk c 0, 24, .inl f)) = eM c (ts_a s 10 f) r := funext fun k => match k with
  | 0 => rfl
  | 1 => rfl
  | 2 => rfl
  | 3 => rfl
  | 4 => rfl
  | 5 => rfl
  | 6 => rfl
  | 7 => rfl
  | 8 => rfl
  | 9 => rfl
  | 10 => rfl
  | 11 => rfl
  | 12 => rfl
  | 13 => rfl
  | 14 => rfl
  | 15 => rfl
  | 16 => rfl
  | 17 => rfl
  | 18 => rfl
  | _ + 19 => rfl
theorem eM_u_coatOf (c : tv_c) (s r : ts_T) (f : Nat → Int32) : va_up (eM c s r) 5 (.inl (tv_kk c 0, 24, .inl f)) = eM c (ts_a s 11 f) r := funext fun k => match k with
  | 0 => rfl
  | 1 => rfl
  | 2 => rfl
  | 3 => rfl
  | 4 => rfl
  | 5 => rfl
  | 6 => rfl
  | 7 => rfl
  | 8 => rfl
  | 9 => rfl
  | 10 => rfl
  | 11 => rfl
  | 12 => rfl
  | 13 => rfl
  | 14 => rfl
  | 15 => rfl
  | 16 => rfl
  | 17 => rfl
  | 18 => rfl
  | _ + 19 => rfl
theorem eM_u_had (c : tv_c) (s r : ts_T) (f : Nat → Int32) : va_up (eM c s r) 6 (.inl (tv_kk c 0, 24, .inl f)) = eM c (ts_a s 12 f) r := funext fun k => match k with
  | 0 => rfl
  | 1 => rfl
  | 2 => rfl
  | 3 => rfl
  | 4 => rfl
  | 5 => rfl
  | 6 => rfl
  | 7 => rfl
  | 8 => rfl
  | 9 => rfl
  | 10 => rfl
  | 11 => rfl
  | 12 => rfl
  | 13 => rfl
  | 14 => rfl
  | 15 => rfl
  | 16 => rfl
  | 17 => rfl
  | 18 => rfl
  | _ + 19 => rfl
theorem eM_u_air (c : tv_c) (s r : ts_T) (f : Nat → Int32) : va_up (eM c s r) 7 (.inl (tv_kk c 0, 24, .inl f)) = eM c (ts_a s 13 f) r := funext fun k => match k with
  | 0 => rfl
  | 1 => rfl
  | 2 => rfl
  | 3 => rfl
  | 4 => rfl
  | 5 => rfl
  | 6 => rfl
  | 7 => rfl
  | 8 => rfl
  | 9 => rfl
  | 10 => rfl
  | 11 => rfl
  | 12 => rfl
  | 13 => rfl
  | 14 => rfl
  | 15 => rfl
  | 16 => rfl
  | 17 => rfl
  | 18 => rfl
  | _ + 19 => rfl
theorem eM_u_isHung (c : tv_c) (s r : ts_T) (f : Nat → Int32) : va_up (eM c s r) 8 (.inl (tv_kk c 1, 24, .inl f)) = eM c (ts_a s 14 f) r := funext fun k => match k with
  | 0 => rfl
  | 1 => rfl
  | 2 => rfl
  | 3 => rfl
  | 4 => rfl
  | 5 => rfl
  | 6 => rfl
  | 7 => rfl
  | 8 => rfl
  | 9 => rfl
  | 10 => rfl
  | 11 => rfl
  | 12 => rfl
  | 13 => rfl
  | 14 => rfl
  | 15 => rfl
  | 16 => rfl
  | 17 => rfl
  | 18 => rfl
  | _ + 19 => rfl
theorem eM_u_readSun (c : tv_c) (s r : ts_T) (f : Nat → Int32) : va_up (eM c s r) 9 (.inl (tv_kk c 0, 24, .inl f)) = eM c s (ts_a r 3 f) := funext fun k => match k with
  | 0 => rfl
  | 1 => rfl
  | 2 => rfl
  | 3 => rfl
  | 4 => rfl
  | 5 => rfl
  | 6 => rfl
  | 7 => rfl
  | 8 => rfl
  | 9 => rfl
  | 10 => rfl
  | 11 => rfl
  | 12 => rfl
  | 13 => rfl
  | 14 => rfl
  | 15 => rfl
  | 16 => rfl
  | 17 => rfl
  | 18 => rfl
  | _ + 19 => rfl
theorem eM_u_kind (c : tv_c) (s r : ts_T) (f : Nat → Int32) : va_up (eM c s r) 10 (.inl (tv_kk c 0, 6, .inl f)) = eM c (ts_a s 15 f) r := funext fun k => match k with
  | 0 => rfl
  | 1 => rfl
  | 2 => rfl
  | 3 => rfl
  | 4 => rfl
  | 5 => rfl
  | 6 => rfl
  | 7 => rfl
  | 8 => rfl
  | 9 => rfl
  | 10 => rfl
  | 11 => rfl
  | 12 => rfl
  | 13 => rfl
  | 14 => rfl
  | 15 => rfl
  | 16 => rfl
  | 17 => rfl
  | 18 => rfl
  | _ + 19 => rfl
theorem eM_u_bands (c : tv_c) (s r : ts_T) (f : Nat → Int32) : va_up (eM c s r) 11 (.inl (tv_kk c 0, 18, .inl f)) = eM c (ts_a s 16 f) r := funext fun k => match k with
  | 0 => rfl
  | 1 => rfl
  | 2 => rfl
  | 3 => rfl
  | 4 => rfl
  | 5 => rfl
  | 6 => rfl
  | 7 => rfl
  | 8 => rfl
  | 9 => rfl
  | 10 => rfl
  | 11 => rfl
  | 12 => rfl
  | 13 => rfl
  | 14 => rfl
  | 15 => rfl
  | 16 => rfl
  | 17 => rfl
  | 18 => rfl
  | _ + 19 => rfl
theorem eM_u_weights (c : tv_c) (s r : ts_T) (f : Nat → Int32) : va_up (eM c s r) 12 (.inl (tv_kk c 0, 12, .inl f)) = eM c (ts_a s 17 f) r := funext fun k => match k with
  | 0 => rfl
  | 1 => rfl
  | 2 => rfl
  | 3 => rfl
  | 4 => rfl
  | 5 => rfl
  | 6 => rfl
  | 7 => rfl
  | 8 => rfl
  | 9 => rfl
  | 10 => rfl
  | 11 => rfl
  | 12 => rfl
  | 13 => rfl
  | 14 => rfl
  | 15 => rfl
  | 16 => rfl
  | 17 => rfl
  | 18 => rfl
  | _ + 19 => rfl
theorem eM_u_drops (c : tv_c) (s r : ts_T) (f : Nat → Int32) : va_up (eM c s r) 13 (.inl (tv_kk c 0, 4, .inl f)) = eM c s (ts_a r 4 f) := funext fun k => match k with
  | 0 => rfl
  | 1 => rfl
  | 2 => rfl
  | 3 => rfl
  | 4 => rfl
  | 5 => rfl
  | 6 => rfl
  | 7 => rfl
  | 8 => rfl
  | 9 => rfl
  | 10 => rfl
  | 11 => rfl
  | 12 => rfl
  | 13 => rfl
  | 14 => rfl
  | 15 => rfl
  | 16 => rfl
  | 17 => rfl
  | 18 => rfl
  | _ + 19 => rfl
theorem eM_u_mixBands (c : tv_c) (s r : ts_T) (f : Nat → Int32) : va_up (eM c s r) 14 (.inl (tv_kk c 0, 3, .inl f)) = eM c s (ts_a r 6 f) := funext fun k => match k with
  | 0 => rfl
  | 1 => rfl
  | 2 => rfl
  | 3 => rfl
  | 4 => rfl
  | 5 => rfl
  | 6 => rfl
  | 7 => rfl
  | 8 => rfl
  | 9 => rfl
  | 10 => rfl
  | 11 => rfl
  | 12 => rfl
  | 13 => rfl
  | 14 => rfl
  | 15 => rfl
  | 16 => rfl
  | 17 => rfl
  | 18 => rfl
  | _ + 19 => rfl
theorem eM_u_bestDrops (c : tv_c) (s r : ts_T) (f : Nat → Int32) : va_up (eM c s r) 15 (.inl (tv_kk c 0, 4, .inl f)) = eM c s (ts_a r 8 f) := funext fun k => match k with
  | 0 => rfl
  | 1 => rfl
  | 2 => rfl
  | 3 => rfl
  | 4 => rfl
  | 5 => rfl
  | 6 => rfl
  | 7 => rfl
  | 8 => rfl
  | 9 => rfl
  | 10 => rfl
  | 11 => rfl
  | 12 => rfl
  | 13 => rfl
  | 14 => rfl
  | 15 => rfl
  | 16 => rfl
  | 17 => rfl
  | 18 => rfl
  | _ + 19 => rfl
theorem eM_u_keptCoat (c : tv_c) (s r : ts_T) (f : Nat → Int32) : va_up (eM c s r) 16 (.inl (tv_kk c 0, 24, .inl f)) = eM c s (ts_a r 9 f) := funext fun k => match k with
  | 0 => rfl
  | 1 => rfl
  | 2 => rfl
  | 3 => rfl
  | 4 => rfl
  | 5 => rfl
  | 6 => rfl
  | 7 => rfl
  | 8 => rfl
  | 9 => rfl
  | 10 => rfl
  | 11 => rfl
  | 12 => rfl
  | 13 => rfl
  | 14 => rfl
  | 15 => rfl
  | 16 => rfl
  | 17 => rfl
  | 18 => rfl
  | _ + 19 => rfl
theorem eM_u_keptHad (c : tv_c) (s r : ts_T) (f : Nat → Int32) : va_up (eM c s r) 17 (.inl (tv_kk c 0, 24, .inl f)) = eM c s (ts_a r 10 f) := funext fun k => match k with
  | 0 => rfl
  | 1 => rfl
  | 2 => rfl
  | 3 => rfl
  | 4 => rfl
  | 5 => rfl
  | 6 => rfl
  | 7 => rfl
  | 8 => rfl
  | 9 => rfl
  | 10 => rfl
  | 11 => rfl
  | 12 => rfl
  | 13 => rfl
  | 14 => rfl
  | 15 => rfl
  | 16 => rfl
  | 17 => rfl
  | 18 => rfl
  | _ + 19 => rfl
theorem eM_u_keptAir (c : tv_c) (s r : ts_T) (f : Nat → Int32) : va_up (eM c s r) 18 (.inl (tv_kk c 0, 24, .inl f)) = eM c s (ts_a r 11 f) := funext fun k => match k with
  | 0 => rfl
  | 1 => rfl
  | 2 => rfl
  | 3 => rfl
  | 4 => rfl
  | 5 => rfl
  | 6 => rfl
  | 7 => rfl
  | 8 => rfl
  | 9 => rfl
  | 10 => rfl
  | 11 => rfl
  | 12 => rfl
  | 13 => rfl
  | 14 => rfl
  | 15 => rfl
  | 16 => rfl
  | 17 => rfl
  | 18 => rfl
  | _ + 19 => rfl
theorem eM_so_put (s : ts_T) (k : Nat) (v : Int32) : upd (eM_so s) k v = eM_so (ts_a (ts_a s 18 (upd (s 18) k 1)) 19 (upd (s 19) k v)) := by
  funext j
  by_cases h : j = k
  · subst h
    simp [eM_so, upd, ts_a]
  · simp [eM_so, upd, ts_a, h]
theorem eM_so_lose (s : ts_T) (k : Nat) : upd (eM_so s) k (-9) = eM_so (ts_a s 18 (upd (s 18) k 0)) := by
  funext j
  by_cases h : j = k
  · subst h
    simp [eM_so, upd, ts_a]
  · simp [eM_so, upd, ts_a, h]
theorem eM_u_sorts_put (c : tv_c) (s r : ts_T) (k : Nat) (v : Int32) : va_up (eM c s r) 1 (.inl (tv_kk c 0, 4, .inl (upd (eM_so s) k v))) = eM c (ts_a (ts_a s 18 (upd (s 18) k 1)) 19 (upd (s 19) k v)) r := by
  rw [eM_so_put]
  exact funext fun k => match k with
    | 0 => rfl
    | 1 => rfl
    | 2 => rfl
    | 3 => rfl
    | 4 => rfl
    | 5 => rfl
    | 6 => rfl
    | 7 => rfl
    | 8 => rfl
    | 9 => rfl
    | 10 => rfl
    | 11 => rfl
    | 12 => rfl
    | 13 => rfl
    | 14 => rfl
    | 15 => rfl
    | 16 => rfl
    | 17 => rfl
    | 18 => rfl
    | _ + 19 => rfl
theorem eM_u_sorts_lose (c : tv_c) (s r : ts_T) (k : Nat) : va_up (eM c s r) 1 (.inl (tv_kk c 0, 4, .inl (upd (eM_so s) k (-9)))) = eM c (ts_a s 18 (upd (s 18) k 0)) r := by
  rw [eM_so_lose]
  exact funext fun k => match k with
    | 0 => rfl
    | 1 => rfl
    | 2 => rfl
    | 3 => rfl
    | 4 => rfl
    | 5 => rfl
    | 6 => rfl
    | 7 => rfl
    | 8 => rfl
    | 9 => rfl
    | 10 => rfl
    | 11 => rfl
    | 12 => rfl
    | 13 => rfl
    | 14 => rfl
    | 15 => rfl
    | 16 => rfl
    | 17 => rfl
    | 18 => rfl
    | _ + 19 => rfl
theorem eM_count (c : tv_c) (s r : ts_T) (v : Int32) : eM c (ts_s s 9 v) r = eM c s r := funext fun k => match k with
  | 0 => rfl
  | 1 => rfl
  | 2 => rfl
  | 3 => rfl
  | 4 => rfl
  | 5 => rfl
  | 6 => rfl
  | 7 => rfl
  | 8 => rfl
  | 9 => rfl
  | 10 => rfl
  | 11 => rfl
  | 12 => rfl
  | 13 => rfl
  | 14 => rfl
  | 15 => rfl
  | 16 => rfl
  | 17 => rfl
  | 18 => rfl
  | _ + 19 => rfl
/-! the class -/
def eX_0 (c : tv_c) (s : ts_T) : List Value := [.ref (tv_ad c 1), .ref (tv_ad c 2), .ref (tv_ad c 6), .ref (tv_ad c 9), .ref (tv_ad c 15), .int (s 1 0), .int (s 0 0)]
def eX_w (c : tv_c) (s : ts_T) : List Value := [.ref (tv_ad c 3), .ref (tv_ad c 4), .ref (tv_ad c 5), .int (s 2 0), .int (s 3 0), .int (s 9 0), .int (s 7 0), .int (s 8 0), .int (s 4 0), .int (s 5 0), .int (s 6 0)]
def eX_e (c : tv_c) : List Value := [.ref (tv_ad c 2), .ref (tv_ad c 7), .ref (tv_ad c 8)]
def eX_m (c : tv_c) (r : ts_T) : List Value := [.ref (tv_ad c 2), .ref (tv_ad c 10), .ref (tv_ad c 11), .ref (tv_ad c 13), .ref (tv_ad c 14), .int (r 7 0), .int (r 8 0)]
def eX_x (c : tv_c) (r : ts_T) : List Value := [.ref (tv_ad c 12), .int (r 6 0)]
def eX_p (c : tv_c) (r : ts_T) : List Value := [.ref (tv_ad c 2), .ref (tv_ad c 6), .int (r 9 0), .int (r 10 0), .int (r 11 0)]
def eX_s (c : tv_c) (s : ts_T) (k : Nat) : List Value := [.ref (tv_ad c (20 + k)), .int (s 18 k), .int (s 19 k), .int (s 20 k)]
def eX_c (s : ts_T) (j : Nat) : List Value := [.int (s 10 j), .int (s 11 j), .int (s 12 j), .int (s 13 j), .int (s 14 j)]
def eX_k (c : tv_c) (s : ts_T) (k : Nat) : List Value := [.ref (tv_ad c (54 + k)), .int (s 15 k)]
def eX_rf (s : ts_T) (k : Nat) : Nat → Int32 := fun i => if i < 40 then s 21 (40 * k + i) else 0
def eX_bf (s : ts_T) (k : Nat) : Nat → Int32 := fun b => if b < 3 then s 16 (3 * k + b) else 0
def eX_t (c : tv_c) (s : ts_T) (k : Nat) : va_E := if k < 4 then .inr (5, eX_s c s k) else if k < 8 then .inl (tv_kk c 0, 40, .inl (eX_rf s (k - 4))) else if k < 32 then .inr (0, eX_c s (k - 8)) else if k < 38 then .inr (1, eX_k c s (k - 32)) else .inl (tv_kk c 0, 3, .inl (eX_bf s (k - 38)))
def eX (c : tv_c) (s r : ts_T) : Nat → va_E := fun k => match k with
  | 0 => .inr (7, eX_0 c s)
  | 1 => .inl (tv_kk c 2, 4, .inr (.inr (.inr (.inr (fun k => some (tv_ad c (16 + k)))))))
  | 2 => .inr (6, eX_w c s)
  | 3 => .inl (tv_kk c 3, 24, .inr (.inr (.inr (.inr (fun k => some (tv_ad c (24 + k)))))))
  | 4 => .inl (tv_kk c 4, 6, .inr (.inr (.inr (.inr (fun k => some (tv_ad c (48 + k)))))))
  | 5 => .inl (tv_kk c 0, 12, .inl (s 17))
  | 6 => .inr (2, eX_e c)
  | 7 => .inl (tv_kk c 0, 200, .inl (r 0))
  | 8 => .inl (tv_kk c 0, 24, .inl (r 1))
  | 9 => .inr (3, eX_m c r)
  | 10 => .inl (tv_kk c 0, 4, .inl (r 2))
  | 11 => .inr (1, eX_x c r)
  | 12 => .inl (tv_kk c 0, 3, .inl (r 3))
  | 13 => .inl (tv_kk c 0, 8, .inl (r 4))
  | 14 => .inl (tv_kk c 0, 4, .inl (r 5))
  | 15 => .inr (4, eX_p c r)
  | k + 16 => eX_t c s k
theorem eX_at_s (c : tv_c) (s r : ts_T) {j : Nat} (h : j < 4) : eX c s r (16 + j) = .inr (5, eX_s c s j) := by
  rw [show 16 + j = (0 + j) + 16 by omega]
  show eX_t c s (0 + j) = _
  unfold eX_t
  rw [if_pos (by omega)]
  rw [show 0 + j = j by omega]
theorem eX_at_r (c : tv_c) (s r : ts_T) {j : Nat} (h : j < 4) : eX c s r (20 + j) = .inl (tv_kk c 0, 40, .inl (eX_rf s j)) := by
  rw [show 20 + j = (4 + j) + 16 by omega]
  show eX_t c s (4 + j) = _
  unfold eX_t
  rw [if_neg (by omega), if_pos (by omega), show 4 + j - 4 = j by omega]
theorem eX_at_c (c : tv_c) (s r : ts_T) {j : Nat} (h : j < 24) : eX c s r (24 + j) = .inr (0, eX_c s j) := by
  rw [show 24 + j = (8 + j) + 16 by omega]
  show eX_t c s (8 + j) = _
  unfold eX_t
  rw [if_neg (by omega), if_neg (by omega), if_pos (by omega), show 8 + j - 8 = j by omega]
theorem eX_at_k (c : tv_c) (s r : ts_T) {j : Nat} (h : j < 6) : eX c s r (48 + j) = .inr (1, eX_k c s j) := by
  rw [show 48 + j = (32 + j) + 16 by omega]
  show eX_t c s (32 + j) = _
  unfold eX_t
  rw [if_neg (by omega), if_neg (by omega), if_neg (by omega), if_pos (by omega), show 32 + j - 32 = j by omega]
theorem eX_at_b (c : tv_c) (s r : ts_T) {j : Nat} (h : j < 6) : eX c s r (54 + j) = .inl (tv_kk c 0, 3, .inl (eX_bf s j)) := by
  rw [show 54 + j = (38 + j) + 16 by omega]
  show eX_t c s (38 + j) = _
  unfold eX_t
  rw [if_neg (by omega), if_neg (by omega), if_neg (by omega), if_neg (by omega), show 38 + j - 38 = j by omega]
theorem eX_lo_10 (c : tv_c) (s r : ts_T) (f : Nat → Int32) : ∀ k, k < 16 → eX c s r k = eX c (ts_a s 10 f) r k := fun k h => match k, h with
  | 0, _ => rfl
  | 1, _ => rfl
  | 2, _ => rfl
  | 3, _ => rfl
  | 4, _ => rfl
  | 5, _ => rfl
  | 6, _ => rfl
  | 7, _ => rfl
  | 8, _ => rfl
  | 9, _ => rfl
  | 10, _ => rfl
  | 11, _ => rfl
  | 12, _ => rfl
  | 13, _ => rfl
  | 14, _ => rfl
  | 15, _ => rfl
  | _ + 16, h => absurd h (by omega)
theorem eX_lo_11 (c : tv_c) (s r : ts_T) (f : Nat → Int32) : ∀ k, k < 16 → eX c s r k = eX c (ts_a s 11 f) r k := fun k h => match k, h with
  | 0, _ => rfl
  | 1, _ => rfl
  | 2, _ => rfl
  | 3, _ => rfl
  | 4, _ => rfl
  | 5, _ => rfl
  | 6, _ => rfl
  | 7, _ => rfl
  | 8, _ => rfl
  | 9, _ => rfl
  | 10, _ => rfl
  | 11, _ => rfl
  | 12, _ => rfl
  | 13, _ => rfl
  | 14, _ => rfl
  | 15, _ => rfl
  | _ + 16, h => absurd h (by omega)
theorem eX_lo_12 (c : tv_c) (s r : ts_T) (f : Nat → Int32) : ∀ k, k < 16 → eX c s r k = eX c (ts_a s 12 f) r k := fun k h => match k, h with
  | 0, _ => rfl
  | 1, _ => rfl
  | 2, _ => rfl
  | 3, _ => rfl
  | 4, _ => rfl
  | 5, _ => rfl
  | 6, _ => rfl
  | 7, _ => rfl
  | 8, _ => rfl
  | 9, _ => rfl
  | 10, _ => rfl
  | 11, _ => rfl
  | 12, _ => rfl
  | 13, _ => rfl
  | 14, _ => rfl
  | 15, _ => rfl
  | _ + 16, h => absurd h (by omega)
theorem eX_lo_13 (c : tv_c) (s r : ts_T) (f : Nat → Int32) : ∀ k, k < 16 → eX c s r k = eX c (ts_a s 13 f) r k := fun k h => match k, h with
  | 0, _ => rfl
  | 1, _ => rfl
  | 2, _ => rfl
  | 3, _ => rfl
  | 4, _ => rfl
  | 5, _ => rfl
  | 6, _ => rfl
  | 7, _ => rfl
  | 8, _ => rfl
  | 9, _ => rfl
  | 10, _ => rfl
  | 11, _ => rfl
  | 12, _ => rfl
  | 13, _ => rfl
  | 14, _ => rfl
  | 15, _ => rfl
  | _ + 16, h => absurd h (by omega)
theorem eX_lo_14 (c : tv_c) (s r : ts_T) (f : Nat → Int32) : ∀ k, k < 16 → eX c s r k = eX c (ts_a s 14 f) r k := fun k h => match k, h with
  | 0, _ => rfl
  | 1, _ => rfl
  | 2, _ => rfl
  | 3, _ => rfl
  | 4, _ => rfl
  | 5, _ => rfl
  | 6, _ => rfl
  | 7, _ => rfl
  | 8, _ => rfl
  | 9, _ => rfl
  | 10, _ => rfl
  | 11, _ => rfl
  | 12, _ => rfl
  | 13, _ => rfl
  | 14, _ => rfl
  | 15, _ => rfl
  | _ + 16, h => absurd h (by omega)
theorem eX_lo_15 (c : tv_c) (s r : ts_T) (f : Nat → Int32) : ∀ k, k < 16 → eX c s r k = eX c (ts_a s 15 f) r k := fun k h => match k, h with
  | 0, _ => rfl
  | 1, _ => rfl
  | 2, _ => rfl
  | 3, _ => rfl
  | 4, _ => rfl
  | 5, _ => rfl
  | 6, _ => rfl
  | 7, _ => rfl
  | 8, _ => rfl
  | 9, _ => rfl
  | 10, _ => rfl
  | 11, _ => rfl
  | 12, _ => rfl
  | 13, _ => rfl
  | 14, _ => rfl
  | 15, _ => rfl
  | _ + 16, h => absurd h (by omega)
theorem eX_lo_16 (c : tv_c) (s r : ts_T) (f : Nat → Int32) : ∀ k, k < 16 → eX c s r k = eX c (ts_a s 16 f) r k := fun k h => match k, h with
  | 0, _ => rfl
  | 1, _ => rfl
  | 2, _ => rfl
  | 3, _ => rfl
  | 4, _ => rfl
  | 5, _ => rfl
  | 6, _ => rfl
  | 7, _ => rfl
  | 8, _ => rfl
  | 9, _ => rfl
  | 10, _ => rfl
  | 11, _ => rfl
  | 12, _ => rfl
  | 13, _ => rfl
  | 14, _ => rfl
  | 15, _ => rfl
  | _ + 16, h => absurd h (by omega)
theorem eX_lo_18 (c : tv_c) (s r : ts_T) (f : Nat → Int32) : ∀ k, k < 16 → eX c s r k = eX c (ts_a s 18 f) r k := fun k h => match k, h with
  | 0, _ => rfl
  | 1, _ => rfl
  | 2, _ => rfl
  | 3, _ => rfl
  | 4, _ => rfl
  | 5, _ => rfl
  | 6, _ => rfl
  | 7, _ => rfl
  | 8, _ => rfl
  | 9, _ => rfl
  | 10, _ => rfl
  | 11, _ => rfl
  | 12, _ => rfl
  | 13, _ => rfl
  | 14, _ => rfl
  | 15, _ => rfl
  | _ + 16, h => absurd h (by omega)
theorem eX_lo_19 (c : tv_c) (s r : ts_T) (f : Nat → Int32) : ∀ k, k < 16 → eX c s r k = eX c (ts_a s 19 f) r k := fun k h => match k, h with
  | 0, _ => rfl
  | 1, _ => rfl
  | 2, _ => rfl
  | 3, _ => rfl
  | 4, _ => rfl
  | 5, _ => rfl
  | 6, _ => rfl
  | 7, _ => rfl
  | 8, _ => rfl
  | 9, _ => rfl
  | 10, _ => rfl
  | 11, _ => rfl
  | 12, _ => rfl
  | 13, _ => rfl
  | 14, _ => rfl
  | 15, _ => rfl
  | _ + 16, h => absurd h (by omega)
theorem eX_lo_20 (c : tv_c) (s r : ts_T) (f : Nat → Int32) : ∀ k, k < 16 → eX c s r k = eX c (ts_a s 20 f) r k := fun k h => match k, h with
  | 0, _ => rfl
  | 1, _ => rfl
  | 2, _ => rfl
  | 3, _ => rfl
  | 4, _ => rfl
  | 5, _ => rfl
  | 6, _ => rfl
  | 7, _ => rfl
  | 8, _ => rfl
  | 9, _ => rfl
  | 10, _ => rfl
  | 11, _ => rfl
  | 12, _ => rfl
  | 13, _ => rfl
  | 14, _ => rfl
  | 15, _ => rfl
  | _ + 16, h => absurd h (by omega)
theorem eX_lo_21 (c : tv_c) (s r : ts_T) (f : Nat → Int32) : ∀ k, k < 16 → eX c s r k = eX c (ts_a s 21 f) r k := fun k h => match k, h with
  | 0, _ => rfl
  | 1, _ => rfl
  | 2, _ => rfl
  | 3, _ => rfl
  | 4, _ => rfl
  | 5, _ => rfl
  | 6, _ => rfl
  | 7, _ => rfl
  | 8, _ => rfl
  | 9, _ => rfl
  | 10, _ => rfl
  | 11, _ => rfl
  | 12, _ => rfl
  | 13, _ => rfl
  | 14, _ => rfl
  | 15, _ => rfl
  | _ + 16, h => absurd h (by omega)
theorem eX_u_marks (c : tv_c) (s r : ts_T) (v : Int32) : va_up (eX c s r) 0 (.inr (7, (eX_0 c s).set 5 (.int v))) = eX c (ts_s s 1 v) r := funext fun k => match k with
  | 0 => rfl
  | 1 => rfl
  | 2 => rfl
  | 3 => rfl
  | 4 => rfl
  | 5 => rfl
  | 6 => rfl
  | 7 => rfl
  | 8 => rfl
  | 9 => rfl
  | 10 => rfl
  | 11 => rfl
  | 12 => rfl
  | 13 => rfl
  | 14 => rfl
  | 15 => rfl
  | _ + 16 => rfl
theorem eX_u_latestFault (c : tv_c) (s r : ts_T) (v : Int32) : va_up (eX c s r) 0 (.inr (7, (eX_0 c s).set 6 (.int v))) = eX c (ts_s s 0 v) r := funext fun k => match k with
  | 0 => rfl
  | 1 => rfl
  | 2 => rfl
  | 3 => rfl
  | 4 => rfl
  | 5 => rfl
  | 6 => rfl
  | 7 => rfl
  | 8 => rfl
  | 9 => rfl
  | 10 => rfl
  | 11 => rfl
  | 12 => rfl
  | 13 => rfl
  | 14 => rfl
  | 15 => rfl
  | _ + 16 => rfl
theorem eX_u_high (c : tv_c) (s r : ts_T) (v : Int32) : va_up (eX c s r) 2 (.inr (6, (eX_w c s).set 3 (.int v))) = eX c (ts_s s 2 v) r := funext fun k => match k with
  | 0 => rfl
  | 1 => rfl
  | 2 => rfl
  | 3 => rfl
  | 4 => rfl
  | 5 => rfl
  | 6 => rfl
  | 7 => rfl
  | 8 => rfl
  | 9 => rfl
  | 10 => rfl
  | 11 => rfl
  | 12 => rfl
  | 13 => rfl
  | 14 => rfl
  | 15 => rfl
  | _ + 16 => rfl
theorem eX_u_wide (c : tv_c) (s r : ts_T) (v : Int32) : va_up (eX c s r) 2 (.inr (6, (eX_w c s).set 4 (.int v))) = eX c (ts_s s 3 v) r := funext fun k => match k with
  | 0 => rfl
  | 1 => rfl
  | 2 => rfl
  | 3 => rfl
  | 4 => rfl
  | 5 => rfl
  | 6 => rfl
  | 7 => rfl
  | 8 => rfl
  | 9 => rfl
  | 10 => rfl
  | 11 => rfl
  | 12 => rfl
  | 13 => rfl
  | 14 => rfl
  | 15 => rfl
  | _ + 16 => rfl
theorem eX_u_count (c : tv_c) (s r : ts_T) (v : Int32) : va_up (eX c s r) 2 (.inr (6, (eX_w c s).set 5 (.int v))) = eX c (ts_s s 9 v) r := funext fun k => match k with
  | 0 => rfl
  | 1 => rfl
  | 2 => rfl
  | 3 => rfl
  | 4 => rfl
  | 5 => rfl
  | 6 => rfl
  | 7 => rfl
  | 8 => rfl
  | 9 => rfl
  | 10 => rfl
  | 11 => rfl
  | 12 => rfl
  | 13 => rfl
  | 14 => rfl
  | 15 => rfl
  | _ + 16 => rfl
theorem eX_u_coatCount (c : tv_c) (s r : ts_T) (v : Int32) : va_up (eX c s r) 2 (.inr (6, (eX_w c s).set 6 (.int v))) = eX c (ts_s s 7 v) r := funext fun k => match k with
  | 0 => rfl
  | 1 => rfl
  | 2 => rfl
  | 3 => rfl
  | 4 => rfl
  | 5 => rfl
  | 6 => rfl
  | 7 => rfl
  | 8 => rfl
  | 9 => rfl
  | 10 => rfl
  | 11 => rfl
  | 12 => rfl
  | 13 => rfl
  | 14 => rfl
  | 15 => rfl
  | _ + 16 => rfl
theorem eX_u_lightCount (c : tv_c) (s r : ts_T) (v : Int32) : va_up (eX c s r) 2 (.inr (6, (eX_w c s).set 7 (.int v))) = eX c (ts_s s 8 v) r := funext fun k => match k with
  | 0 => rfl
  | 1 => rfl
  | 2 => rfl
  | 3 => rfl
  | 4 => rfl
  | 5 => rfl
  | 6 => rfl
  | 7 => rfl
  | 8 => rfl
  | 9 => rfl
  | 10 => rfl
  | 11 => rfl
  | 12 => rfl
  | 13 => rfl
  | 14 => rfl
  | 15 => rfl
  | _ + 16 => rfl
theorem eX_u_year (c : tv_c) (s r : ts_T) (v : Int32) : va_up (eX c s r) 2 (.inr (6, (eX_w c s).set 8 (.int v))) = eX c (ts_s s 4 v) r := funext fun k => match k with
  | 0 => rfl
  | 1 => rfl
  | 2 => rfl
  | 3 => rfl
  | 4 => rfl
  | 5 => rfl
  | 6 => rfl
  | 7 => rfl
  | 8 => rfl
  | 9 => rfl
  | 10 => rfl
  | 11 => rfl
  | 12 => rfl
  | 13 => rfl
  | 14 => rfl
  | 15 => rfl
  | _ + 16 => rfl
theorem eX_u_smoke (c : tv_c) (s r : ts_T) (v : Int32) : va_up (eX c s r) 2 (.inr (6, (eX_w c s).set 9 (.int v))) = eX c (ts_s s 5 v) r := funext fun k => match k with
  | 0 => rfl
  | 1 => rfl
  | 2 => rfl
  | 3 => rfl
  | 4 => rfl
  | 5 => rfl
  | 6 => rfl
  | 7 => rfl
  | 8 => rfl
  | 9 => rfl
  | 10 => rfl
  | 11 => rfl
  | 12 => rfl
  | 13 => rfl
  | 14 => rfl
  | 15 => rfl
  | _ + 16 => rfl
theorem eX_u_line (c : tv_c) (s r : ts_T) (v : Int32) : va_up (eX c s r) 2 (.inr (6, (eX_w c s).set 10 (.int v))) = eX c (ts_s s 6 v) r := funext fun k => match k with
  | 0 => rfl
  | 1 => rfl
  | 2 => rfl
  | 3 => rfl
  | 4 => rfl
  | 5 => rfl
  | 6 => rfl
  | 7 => rfl
  | 8 => rfl
  | 9 => rfl
  | 10 => rfl
  | 11 => rfl
  | 12 => rfl
  | 13 => rfl
  | 14 => rfl
  | 15 => rfl
  | _ + 16 => rfl
theorem eX_u_leastUnlike (c : tv_c) (s r : ts_T) (v : Int32) : va_up (eX c s r) 9 (.inr (3, (eX_m c r).set 5 (.int v))) = eX c s (ts_s r 7 v) := funext fun k => match k with
  | 0 => rfl
  | 1 => rfl
  | 2 => rfl
  | 3 => rfl
  | 4 => rfl
  | 5 => rfl
  | 6 => rfl
  | 7 => rfl
  | 8 => rfl
  | 9 => rfl
  | 10 => rfl
  | 11 => rfl
  | 12 => rfl
  | 13 => rfl
  | 14 => rfl
  | 15 => rfl
  | _ + 16 => rfl
theorem eX_u_fewestDrops (c : tv_c) (s r : ts_T) (v : Int32) : va_up (eX c s r) 9 (.inr (3, (eX_m c r).set 6 (.int v))) = eX c s (ts_s r 8 v) := funext fun k => match k with
  | 0 => rfl
  | 1 => rfl
  | 2 => rfl
  | 3 => rfl
  | 4 => rfl
  | 5 => rfl
  | 6 => rfl
  | 7 => rfl
  | 8 => rfl
  | 9 => rfl
  | 10 => rfl
  | 11 => rfl
  | 12 => rfl
  | 13 => rfl
  | 14 => rfl
  | 15 => rfl
  | _ + 16 => rfl
theorem eX_u_mixedKind (c : tv_c) (s r : ts_T) (v : Int32) : va_up (eX c s r) 11 (.inr (1, (eX_x c r).set 1 (.int v))) = eX c s (ts_s r 6 v) := funext fun k => match k with
  | 0 => rfl
  | 1 => rfl
  | 2 => rfl
  | 3 => rfl
  | 4 => rfl
  | 5 => rfl
  | 6 => rfl
  | 7 => rfl
  | 8 => rfl
  | 9 => rfl
  | 10 => rfl
  | 11 => rfl
  | 12 => rfl
  | 13 => rfl
  | 14 => rfl
  | 15 => rfl
  | _ + 16 => rfl
theorem eX_u_size (c : tv_c) (s r : ts_T) (v : Int32) : va_up (eX c s r) 15 (.inr (4, (eX_p c r).set 2 (.int v))) = eX c s (ts_s r 9 v) := funext fun k => match k with
  | 0 => rfl
  | 1 => rfl
  | 2 => rfl
  | 3 => rfl
  | 4 => rfl
  | 5 => rfl
  | 6 => rfl
  | 7 => rfl
  | 8 => rfl
  | 9 => rfl
  | 10 => rfl
  | 11 => rfl
  | 12 => rfl
  | 13 => rfl
  | 14 => rfl
  | 15 => rfl
  | _ + 16 => rfl
theorem eX_u_first (c : tv_c) (s r : ts_T) (v : Int32) : va_up (eX c s r) 15 (.inr (4, (eX_p c r).set 3 (.int v))) = eX c s (ts_s r 10 v) := funext fun k => match k with
  | 0 => rfl
  | 1 => rfl
  | 2 => rfl
  | 3 => rfl
  | 4 => rfl
  | 5 => rfl
  | 6 => rfl
  | 7 => rfl
  | 8 => rfl
  | 9 => rfl
  | 10 => rfl
  | 11 => rfl
  | 12 => rfl
  | 13 => rfl
  | 14 => rfl
  | 15 => rfl
  | _ + 16 => rfl
theorem eX_u_last (c : tv_c) (s r : ts_T) (v : Int32) : va_up (eX c s r) 15 (.inr (4, (eX_p c r).set 4 (.int v))) = eX c s (ts_s r 11 v) := funext fun k => match k with
  | 0 => rfl
  | 1 => rfl
  | 2 => rfl
  | 3 => rfl
  | 4 => rfl
  | 5 => rfl
  | 6 => rfl
  | 7 => rfl
  | 8 => rfl
  | 9 => rfl
  | 10 => rfl
  | 11 => rfl
  | 12 => rfl
  | 13 => rfl
  | 14 => rfl
  | 15 => rfl
  | _ + 16 => rfl
theorem eX_u_weights (c : tv_c) (s r : ts_T) (f : Nat → Int32) : va_up (eX c s r) 5 (.inl (tv_kk c 0, 12, .inl f)) = eX c (ts_a s 17 f) r := funext fun k => match k with
  | 0 => rfl
  | 1 => rfl
  | 2 => rfl
  | 3 => rfl
  | 4 => rfl
  | 5 => rfl
  | 6 => rfl
  | 7 => rfl
  | 8 => rfl
  | 9 => rfl
  | 10 => rfl
  | 11 => rfl
  | 12 => rfl
  | 13 => rfl
  | 14 => rfl
  | 15 => rfl
  | _ + 16 => rfl
theorem eX_u_looks (c : tv_c) (s r : ts_T) (f : Nat → Int32) : va_up (eX c s r) 7 (.inl (tv_kk c 0, 200, .inl f)) = eX c s (ts_a r 0 f) := funext fun k => match k with
  | 0 => rfl
  | 1 => rfl
  | 2 => rfl
  | 3 => rfl
  | 4 => rfl
  | 5 => rfl
  | 6 => rfl
  | 7 => rfl
  | 8 => rfl
  | 9 => rfl
  | 10 => rfl
  | 11 => rfl
  | 12 => rfl
  | 13 => rfl
  | 14 => rfl
  | 15 => rfl
  | _ + 16 => rfl
theorem eX_u_shows (c : tv_c) (s r : ts_T) (f : Nat → Int32) : va_up (eX c s r) 8 (.inl (tv_kk c 0, 24, .inl f)) = eX c s (ts_a r 1 f) := funext fun k => match k with
  | 0 => rfl
  | 1 => rfl
  | 2 => rfl
  | 3 => rfl
  | 4 => rfl
  | 5 => rfl
  | 6 => rfl
  | 7 => rfl
  | 8 => rfl
  | 9 => rfl
  | 10 => rfl
  | 11 => rfl
  | 12 => rfl
  | 13 => rfl
  | 14 => rfl
  | 15 => rfl
  | _ + 16 => rfl
theorem eX_u_drops (c : tv_c) (s r : ts_T) (f : Nat → Int32) : va_up (eX c s r) 10 (.inl (tv_kk c 0, 4, .inl f)) = eX c s (ts_a r 2 f) := funext fun k => match k with
  | 0 => rfl
  | 1 => rfl
  | 2 => rfl
  | 3 => rfl
  | 4 => rfl
  | 5 => rfl
  | 6 => rfl
  | 7 => rfl
  | 8 => rfl
  | 9 => rfl
  | 10 => rfl
  | 11 => rfl
  | 12 => rfl
  | 13 => rfl
  | 14 => rfl
  | 15 => rfl
  | _ + 16 => rfl
theorem eX_u_mixedBands (c : tv_c) (s r : ts_T) (f : Nat → Int32) : va_up (eX c s r) 12 (.inl (tv_kk c 0, 3, .inl f)) = eX c s (ts_a r 3 f) := funext fun k => match k with
  | 0 => rfl
  | 1 => rfl
  | 2 => rfl
  | 3 => rfl
  | 4 => rfl
  | 5 => rfl
  | 6 => rfl
  | 7 => rfl
  | 8 => rfl
  | 9 => rfl
  | 10 => rfl
  | 11 => rfl
  | 12 => rfl
  | 13 => rfl
  | 14 => rfl
  | 15 => rfl
  | _ + 16 => rfl
theorem eX_u_now (c : tv_c) (s r : ts_T) (f : Nat → Int32) : va_up (eX c s r) 13 (.inl (tv_kk c 0, 8, .inl f)) = eX c s (ts_a r 4 f) := funext fun k => match k with
  | 0 => rfl
  | 1 => rfl
  | 2 => rfl
  | 3 => rfl
  | 4 => rfl
  | 5 => rfl
  | 6 => rfl
  | 7 => rfl
  | 8 => rfl
  | 9 => rfl
  | 10 => rfl
  | 11 => rfl
  | 12 => rfl
  | 13 => rfl
  | 14 => rfl
  | 15 => rfl
  | _ + 16 => rfl
theorem eX_u_bestDrops (c : tv_c) (s r : ts_T) (f : Nat → Int32) : va_up (eX c s r) 14 (.inl (tv_kk c 0, 4, .inl f)) = eX c s (ts_a r 5 f) := funext fun k => match k with
  | 0 => rfl
  | 1 => rfl
  | 2 => rfl
  | 3 => rfl
  | 4 => rfl
  | 5 => rfl
  | 6 => rfl
  | 7 => rfl
  | 8 => rfl
  | 9 => rfl
  | 10 => rfl
  | 11 => rfl
  | 12 => rfl
  | 13 => rfl
  | 14 => rfl
  | 15 => rfl
  | _ + 16 => rfl
theorem eX_u_c_sun (c : tv_c) (s r : ts_T) {j : Nat} (hj : j < 24) (v : Int32) : va_up (eX c s r) (24 + j) (.inr (0, (eX_c s j).set 0 (.int v))) = eX c (ts_a s 10 (upd (s 10) j v)) r := by
  funext k
  by_cases hk : k = 24 + j
  · subst hk
    rw [va_up_s, eX_at_c c _ r hj]
    simp [eX_c, ts_a, upd]
  · rw [va_up_n hk]
    rcases Nat.lt_or_ge k 16 with h | h
    · exact eX_lo_10 c s r _ k h
    · obtain ⟨n, rfl⟩ : ∃ n, k = n + 16 := ⟨k - 16, by omega⟩
      show eX_t c s n = eX_t c (ts_a s 10 (upd (s 10) j v)) n
      unfold eX_t
      by_cases a0 : n < 4
      · rw [if_pos a0, if_pos a0]
        rfl
      rw [if_neg a0, if_neg a0]
      by_cases a1 : n < 8
      · rw [if_pos a1, if_pos a1]
        rfl
      rw [if_neg a1, if_neg a1]
      by_cases a2 : n < 32
      · rw [if_pos a2, if_pos a2]
        have hn : n - 8 ≠ j := by omega
        simp [eX_c, ts_a, upd, hn]
      rw [if_neg a2, if_neg a2]
      by_cases a3 : n < 38
      · rw [if_pos a3, if_pos a3]
        rfl
      rw [if_neg a3, if_neg a3]
      rfl
theorem eX_u_c_coat (c : tv_c) (s r : ts_T) {j : Nat} (hj : j < 24) (v : Int32) : va_up (eX c s r) (24 + j) (.inr (0, (eX_c s j).set 1 (.int v))) = eX c (ts_a s 11 (upd (s 11) j v)) r := by
  funext k
  by_cases hk : k = 24 + j
  · subst hk
    rw [va_up_s, eX_at_c c _ r hj]
    simp [eX_c, ts_a, upd]
  · rw [va_up_n hk]
    rcases Nat.lt_or_ge k 16 with h | h
    · exact eX_lo_11 c s r _ k h
    · obtain ⟨n, rfl⟩ : ∃ n, k = n + 16 := ⟨k - 16, by omega⟩
      show eX_t c s n = eX_t c (ts_a s 11 (upd (s 11) j v)) n
      unfold eX_t
      by_cases a0 : n < 4
      · rw [if_pos a0, if_pos a0]
        rfl
      rw [if_neg a0, if_neg a0]
      by_cases a1 : n < 8
      · rw [if_pos a1, if_pos a1]
        rfl
      rw [if_neg a1, if_neg a1]
      by_cases a2 : n < 32
      · rw [if_pos a2, if_pos a2]
        have hn : n - 8 ≠ j := by omega
        simp [eX_c, ts_a, upd, hn]
      rw [if_neg a2, if_neg a2]
      by_cases a3 : n < 38
      · rw [if_pos a3, if_pos a3]
        rfl
      rw [if_neg a3, if_neg a3]
      rfl
theorem eX_u_c_sunHad (c : tv_c) (s r : ts_T) {j : Nat} (hj : j < 24) (v : Int32) : va_up (eX c s r) (24 + j) (.inr (0, (eX_c s j).set 2 (.int v))) = eX c (ts_a s 12 (upd (s 12) j v)) r := by
  funext k
  by_cases hk : k = 24 + j
  · subst hk
    rw [va_up_s, eX_at_c c _ r hj]
    simp [eX_c, ts_a, upd]
  · rw [va_up_n hk]
    rcases Nat.lt_or_ge k 16 with h | h
    · exact eX_lo_12 c s r _ k h
    · obtain ⟨n, rfl⟩ : ∃ n, k = n + 16 := ⟨k - 16, by omega⟩
      show eX_t c s n = eX_t c (ts_a s 12 (upd (s 12) j v)) n
      unfold eX_t
      by_cases a0 : n < 4
      · rw [if_pos a0, if_pos a0]
        rfl
      rw [if_neg a0, if_neg a0]
      by_cases a1 : n < 8
      · rw [if_pos a1, if_pos a1]
        rfl
      rw [if_neg a1, if_neg a1]
      by_cases a2 : n < 32
      · rw [if_pos a2, if_pos a2]
        have hn : n - 8 ≠ j := by omega
        simp [eX_c, ts_a, upd, hn]
      rw [if_neg a2, if_neg a2]
      by_cases a3 : n < 38
      · rw [if_pos a3, if_pos a3]
        rfl
      rw [if_neg a3, if_neg a3]
      rfl
theorem eX_u_c_air (c : tv_c) (s r : ts_T) {j : Nat} (hj : j < 24) (v : Int32) : va_up (eX c s r) (24 + j) (.inr (0, (eX_c s j).set 3 (.int v))) = eX c (ts_a s 13 (upd (s 13) j v)) r := by
  funext k
  by_cases hk : k = 24 + j
  · subst hk
    rw [va_up_s, eX_at_c c _ r hj]
    simp [eX_c, ts_a, upd]
  · rw [va_up_n hk]
    rcases Nat.lt_or_ge k 16 with h | h
    · exact eX_lo_13 c s r _ k h
    · obtain ⟨n, rfl⟩ : ∃ n, k = n + 16 := ⟨k - 16, by omega⟩
      show eX_t c s n = eX_t c (ts_a s 13 (upd (s 13) j v)) n
      unfold eX_t
      by_cases a0 : n < 4
      · rw [if_pos a0, if_pos a0]
        rfl
      rw [if_neg a0, if_neg a0]
      by_cases a1 : n < 8
      · rw [if_pos a1, if_pos a1]
        rfl
      rw [if_neg a1, if_neg a1]
      by_cases a2 : n < 32
      · rw [if_pos a2, if_pos a2]
        have hn : n - 8 ≠ j := by omega
        simp [eX_c, ts_a, upd, hn]
      rw [if_neg a2, if_neg a2]
      by_cases a3 : n < 38
      · rw [if_pos a3, if_pos a3]
        rfl
      rw [if_neg a3, if_neg a3]
      rfl
theorem eX_u_c_hidden (c : tv_c) (s r : ts_T) {j : Nat} (hj : j < 24) (v : Int32) : va_up (eX c s r) (24 + j) (.inr (0, (eX_c s j).set 4 (.int v))) = eX c (ts_a s 14 (upd (s 14) j v)) r := by
  funext k
  by_cases hk : k = 24 + j
  · subst hk
    rw [va_up_s, eX_at_c c _ r hj]
    simp [eX_c, ts_a, upd]
  · rw [va_up_n hk]
    rcases Nat.lt_or_ge k 16 with h | h
    · exact eX_lo_14 c s r _ k h
    · obtain ⟨n, rfl⟩ : ∃ n, k = n + 16 := ⟨k - 16, by omega⟩
      show eX_t c s n = eX_t c (ts_a s 14 (upd (s 14) j v)) n
      unfold eX_t
      by_cases a0 : n < 4
      · rw [if_pos a0, if_pos a0]
        rfl
      rw [if_neg a0, if_neg a0]
      by_cases a1 : n < 8
      · rw [if_pos a1, if_pos a1]
        rfl
      rw [if_neg a1, if_neg a1]
      by_cases a2 : n < 32
      · rw [if_pos a2, if_pos a2]
        have hn : n - 8 ≠ j := by omega
        simp [eX_c, ts_a, upd, hn]
      rw [if_neg a2, if_neg a2]
      by_cases a3 : n < 38
      · rw [if_pos a3, if_pos a3]
        rfl
      rw [if_neg a3, if_neg a3]
      rfl
theorem eX_u_s_has (c : tv_c) (s r : ts_T) {j : Nat} (hj : j < 4) (v : Int32) : va_up (eX c s r) (16 + j) (.inr (5, (eX_s c s j).set 1 (.int v))) = eX c (ts_a s 18 (upd (s 18) j v)) r := by
  funext k
  by_cases hk : k = 16 + j
  · subst hk
    rw [va_up_s, eX_at_s c _ r hj]
    simp [eX_s, ts_a, upd]
  · rw [va_up_n hk]
    rcases Nat.lt_or_ge k 16 with h | h
    · exact eX_lo_18 c s r _ k h
    · obtain ⟨n, rfl⟩ : ∃ n, k = n + 16 := ⟨k - 16, by omega⟩
      show eX_t c s n = eX_t c (ts_a s 18 (upd (s 18) j v)) n
      unfold eX_t
      by_cases a0 : n < 4
      · rw [if_pos a0, if_pos a0]
        have hn : n ≠ j := by omega
        simp [eX_s, ts_a, upd, hn]
      rw [if_neg a0, if_neg a0]
      by_cases a1 : n < 8
      · rw [if_pos a1, if_pos a1]
        rfl
      rw [if_neg a1, if_neg a1]
      by_cases a2 : n < 32
      · rw [if_pos a2, if_pos a2]
        rfl
      rw [if_neg a2, if_neg a2]
      by_cases a3 : n < 38
      · rw [if_pos a3, if_pos a3]
        rfl
      rw [if_neg a3, if_neg a3]
      rfl
theorem eX_u_s_sort (c : tv_c) (s r : ts_T) {j : Nat} (hj : j < 4) (v : Int32) : va_up (eX c s r) (16 + j) (.inr (5, (eX_s c s j).set 2 (.int v))) = eX c (ts_a s 19 (upd (s 19) j v)) r := by
  funext k
  by_cases hk : k = 16 + j
  · subst hk
    rw [va_up_s, eX_at_s c _ r hj]
    simp [eX_s, ts_a, upd]
  · rw [va_up_n hk]
    rcases Nat.lt_or_ge k 16 with h | h
    · exact eX_lo_19 c s r _ k h
    · obtain ⟨n, rfl⟩ : ∃ n, k = n + 16 := ⟨k - 16, by omega⟩
      show eX_t c s n = eX_t c (ts_a s 19 (upd (s 19) j v)) n
      unfold eX_t
      by_cases a0 : n < 4
      · rw [if_pos a0, if_pos a0]
        have hn : n ≠ j := by omega
        simp [eX_s, ts_a, upd, hn]
      rw [if_neg a0, if_neg a0]
      by_cases a1 : n < 8
      · rw [if_pos a1, if_pos a1]
        rfl
      rw [if_neg a1, if_neg a1]
      by_cases a2 : n < 32
      · rw [if_pos a2, if_pos a2]
        rfl
      rw [if_neg a2, if_neg a2]
      by_cases a3 : n < 38
      · rw [if_pos a3, if_pos a3]
        rfl
      rw [if_neg a3, if_neg a3]
      rfl
theorem eX_u_s_length (c : tv_c) (s r : ts_T) {j : Nat} (hj : j < 4) (v : Int32) : va_up (eX c s r) (16 + j) (.inr (5, (eX_s c s j).set 3 (.int v))) = eX c (ts_a s 20 (upd (s 20) j v)) r := by
  funext k
  by_cases hk : k = 16 + j
  · subst hk
    rw [va_up_s, eX_at_s c _ r hj]
    simp [eX_s, ts_a, upd]
  · rw [va_up_n hk]
    rcases Nat.lt_or_ge k 16 with h | h
    · exact eX_lo_20 c s r _ k h
    · obtain ⟨n, rfl⟩ : ∃ n, k = n + 16 := ⟨k - 16, by omega⟩
      show eX_t c s n = eX_t c (ts_a s 20 (upd (s 20) j v)) n
      unfold eX_t
      by_cases a0 : n < 4
      · rw [if_pos a0, if_pos a0]
        have hn : n ≠ j := by omega
        simp [eX_s, ts_a, upd, hn]
      rw [if_neg a0, if_neg a0]
      by_cases a1 : n < 8
      · rw [if_pos a1, if_pos a1]
        rfl
      rw [if_neg a1, if_neg a1]
      by_cases a2 : n < 32
      · rw [if_pos a2, if_pos a2]
        rfl
      rw [if_neg a2, if_neg a2]
      by_cases a3 : n < 38
      · rw [if_pos a3, if_pos a3]
        rfl
      rw [if_neg a3, if_neg a3]
      rfl
theorem eX_u_k_kind (c : tv_c) (s r : ts_T) {j : Nat} (hj : j < 6) (v : Int32) : va_up (eX c s r) (48 + j) (.inr (1, (eX_k c s j).set 1 (.int v))) = eX c (ts_a s 15 (upd (s 15) j v)) r := by
  funext k
  by_cases hk : k = 48 + j
  · subst hk
    rw [va_up_s, eX_at_k c _ r hj]
    simp [eX_k, ts_a, upd]
  · rw [va_up_n hk]
    rcases Nat.lt_or_ge k 16 with h | h
    · exact eX_lo_15 c s r _ k h
    · obtain ⟨n, rfl⟩ : ∃ n, k = n + 16 := ⟨k - 16, by omega⟩
      show eX_t c s n = eX_t c (ts_a s 15 (upd (s 15) j v)) n
      unfold eX_t
      by_cases a0 : n < 4
      · rw [if_pos a0, if_pos a0]
        rfl
      rw [if_neg a0, if_neg a0]
      by_cases a1 : n < 8
      · rw [if_pos a1, if_pos a1]
        rfl
      rw [if_neg a1, if_neg a1]
      by_cases a2 : n < 32
      · rw [if_pos a2, if_pos a2]
        rfl
      rw [if_neg a2, if_neg a2]
      by_cases a3 : n < 38
      · rw [if_pos a3, if_pos a3]
        have hn : n - 32 ≠ j := by omega
        simp [eX_k, ts_a, upd, hn]
      rw [if_neg a3, if_neg a3]
      rfl
theorem eX_bf_s (s : ts_T) (j : Nat) {i : Nat} (hi : i < 3) (v : Int32) : eX_bf (ts_a s 16 (upd (s 16) (3 * j + i) v)) j = upd (eX_bf s j) i v := by
  funext b
  by_cases h : b = i
  · subst h
    simp [eX_bf, ts_a, upd, hi]
  · have h2 : ¬ 3 * j + b = 3 * j + i := by omega
    simp [eX_bf, ts_a, upd, h, h2]
theorem eX_bf_n (s : ts_T) {j n : Nat} (hn : n ≠ j) {i : Nat} (hi : i < 3) (v : Int32) : eX_bf (ts_a s 16 (upd (s 16) (3 * j + i) v)) n = eX_bf s n := by
  funext b
  by_cases h : b < 3
  · have h2 : ¬ 3 * n + b = 3 * j + i := by omega
    simp [eX_bf, ts_a, upd, h, h2]
  · simp [eX_bf, h]
theorem eX_rf_s (s : ts_T) (j : Nat) {i : Nat} (hi : i < 40) (v : Int32) : eX_rf (ts_a s 21 (upd (s 21) (40 * j + i) v)) j = upd (eX_rf s j) i v := by
  funext b
  by_cases h : b = i
  · subst h
    simp [eX_rf, ts_a, upd, hi]
  · have h2 : ¬ 40 * j + b = 40 * j + i := by omega
    simp [eX_rf, ts_a, upd, h, h2]
theorem eX_rf_n (s : ts_T) {j n : Nat} (hn : n ≠ j) {i : Nat} (hi : i < 40) (v : Int32) : eX_rf (ts_a s 21 (upd (s 21) (40 * j + i) v)) n = eX_rf s n := by
  funext b
  by_cases h : b < 40
  · have h2 : ¬ 40 * n + b = 40 * j + i := by omega
    simp [eX_rf, ts_a, upd, h, h2]
  · simp [eX_rf, h]
/-- a whole row anew -/
def ts_row (f : Nat → Int32) (k : Nat) (g : Nat → Int32) : Nat → Int32 := fun q => if 40 * k ≤ q ∧ q < 40 * k + 40 then g (q - 40 * k) else f q
theorem eX_rr_s (s : ts_T) (j : Nat) (g : Nat → Int32) : eX_rf (ts_a s 21 (ts_row (s 21) j g)) j = fun i => if i < 40 then g i else 0 := by
  funext b
  by_cases h : b < 40
  · have h2 : 40 * j + b - 40 * j = b := by omega
    simp [eX_rf, ts_a, ts_row, h, h2]
  · simp [eX_rf, h]
theorem eX_rr_n (s : ts_T) {j n : Nat} (hn : n ≠ j) (g : Nat → Int32) : eX_rf (ts_a s 21 (ts_row (s 21) j g)) n = eX_rf s n := by
  funext b
  by_cases h : b < 40
  · have h2 : ¬ (40 * j ≤ 40 * n + b ∧ 40 * n + b < 40 * j + 40) := by omega
    simp [eX_rf, ts_a, ts_row, h, h2]
  · simp [eX_rf, h]
theorem eX_u_b_bands (c : tv_c) (s r : ts_T) {j : Nat} (hj : j < 6) {i : Nat} (hi : i < 3) (v : Int32) : va_up (eX c s r) (54 + j) (.inl (tv_kk c 0, 3, .inl (upd (eX_bf s j) i v))) = eX c (ts_a s 16 (upd (s 16) (3 * j + i) v)) r := by
  funext k
  by_cases hk : k = 54 + j
  · subst hk
    rw [va_up_s, eX_at_b c _ r hj]
    rw [eX_bf_s s j hi]
  · rw [va_up_n hk]
    rcases Nat.lt_or_ge k 16 with h | h
    · exact eX_lo_16 c s r _ k h
    · obtain ⟨n, rfl⟩ : ∃ n, k = n + 16 := ⟨k - 16, by omega⟩
      show eX_t c s n = eX_t c (ts_a s 16 (upd (s 16) (3 * j + i) v)) n
      unfold eX_t
      by_cases a0 : n < 4
      · rw [if_pos a0, if_pos a0]
        rfl
      rw [if_neg a0, if_neg a0]
      by_cases a1 : n < 8
      · rw [if_pos a1, if_pos a1]
        rfl
      rw [if_neg a1, if_neg a1]
      by_cases a2 : n < 32
      · rw [if_pos a2, if_pos a2]
        rfl
      rw [if_neg a2, if_neg a2]
      by_cases a3 : n < 38
      · rw [if_pos a3, if_pos a3]
        rfl
      rw [if_neg a3, if_neg a3]
      have hn : n - 38 ≠ j := by omega
      rw [eX_bf_n s hn hi]
theorem eX_u_r_row (c : tv_c) (s r : ts_T) {j : Nat} (hj : j < 4) {i : Nat} (hi : i < 40) (v : Int32) : va_up (eX c s r) (20 + j) (.inl (tv_kk c 0, 40, .inl (upd (eX_rf s j) i v))) = eX c (ts_a s 21 (upd (s 21) (40 * j + i) v)) r := by
  funext k
  by_cases hk : k = 20 + j
  · subst hk
    rw [va_up_s, eX_at_r c _ r hj]
    rw [eX_rf_s s j hi]
  · rw [va_up_n hk]
    rcases Nat.lt_or_ge k 16 with h | h
    · exact eX_lo_21 c s r _ k h
    · obtain ⟨n, rfl⟩ : ∃ n, k = n + 16 := ⟨k - 16, by omega⟩
      show eX_t c s n = eX_t c (ts_a s 21 (upd (s 21) (40 * j + i) v)) n
      unfold eX_t
      by_cases a0 : n < 4
      · rw [if_pos a0, if_pos a0]
        rfl
      rw [if_neg a0, if_neg a0]
      by_cases a1 : n < 8
      · rw [if_pos a1, if_pos a1]
        have hn : n - 4 ≠ j := by omega
        rw [eX_rf_n s hn hi]
      rw [if_neg a1, if_neg a1]
      by_cases a2 : n < 32
      · rw [if_pos a2, if_pos a2]
        rfl
      rw [if_neg a2, if_neg a2]
      by_cases a3 : n < 38
      · rw [if_pos a3, if_pos a3]
        rfl
      rw [if_neg a3, if_neg a3]
      rfl
theorem eX_u_r_all (c : tv_c) (s r : ts_T) {j : Nat} (hj : j < 4) (g : Nat → Int32) : va_up (eX c s r) (20 + j) (.inl (tv_kk c 0, 40, .inl (fun i => if i < 40 then g i else 0))) = eX c (ts_a s 21 (ts_row (s 21) j g)) r := by
  funext k
  by_cases hk : k = 20 + j
  · subst hk
    rw [va_up_s, eX_at_r c _ r hj]
    rw [eX_rr_s s j g]
  · rw [va_up_n hk]
    rcases Nat.lt_or_ge k 16 with h | h
    · exact eX_lo_21 c s r _ k h
    · obtain ⟨n, rfl⟩ : ∃ n, k = n + 16 := ⟨k - 16, by omega⟩
      show eX_t c s n = eX_t c (ts_a s 21 (ts_row (s 21) j g)) n
      unfold eX_t
      by_cases a0 : n < 4
      · rw [if_pos a0, if_pos a0]
        rfl
      rw [if_neg a0, if_neg a0]
      by_cases a1 : n < 8
      · rw [if_pos a1, if_pos a1]
        have hn : n - 4 ≠ j := by omega
        rw [eX_rr_n s hn g]
      rw [if_neg a1, if_neg a1]
      by_cases a2 : n < 32
      · rw [if_pos a2, if_pos a2]
        rfl
      rw [if_neg a2, if_neg a2]
      by_cases a3 : n < 38
      · rw [if_pos a3, if_pos a3]
        rfl
      rw [if_neg a3, if_neg a3]
      rfl
end
