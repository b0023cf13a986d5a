section
-- ===== PART A: goes FIRST, ahead of the names: the tables' words, and 'selects' of the private methods out of them =====
/-- a private method of a class that the tables say can be made, by its rows of tables_1 -/
def lw_okq (q : MethodName × Nat) : Prop := (q.1.cls ≠ "java/lang/invoke/MethodHandle" ∧ q.1.cls ≠ "java/lang/invoke/VarHandle") ∧ Cond.instantiable q.1.cls q.2 ∈ tables_1 ∧ Cond.privateMethod q.1 ∈ tables_1 ∧ Cond.instanceMethod q.1 ∈ tables_1
theorem lw_p0 : lw_okq (⟨"RingBars", "barAt", "(I)LRingBars$Bar;"⟩, 12) := ⟨⟨by decide +kernel, by decide +kernel⟩, List.mem_of_getElem? (i := 20) (by decide +kernel), List.mem_of_getElem? (i := 488) (by decide +kernel), List.mem_of_getElem? (i := 489) (by decide +kernel)⟩
theorem lw_p1 : lw_okq (⟨"RingBars", "addBytes", "(I)V"⟩, 12) := ⟨⟨by decide +kernel, by decide +kernel⟩, List.mem_of_getElem? (i := 20) (by decide +kernel), List.mem_of_getElem? (i := 511) (by decide +kernel), List.mem_of_getElem? (i := 512) (by decide +kernel)⟩
theorem lw_p2 : lw_okq (⟨"RingBars", "textAt", "(II)LRingBars$Text;"⟩, 12) := ⟨⟨by decide +kernel, by decide +kernel⟩, List.mem_of_getElem? (i := 20) (by decide +kernel), List.mem_of_getElem? (i := 523) (by decide +kernel), List.mem_of_getElem? (i := 524) (by decide +kernel)⟩
theorem lw_p3 : lw_okq (⟨"RingBars$Reader", "addToken", "(III)V"⟩, 9) := ⟨⟨by decide +kernel, by decide +kernel⟩, List.mem_of_getElem? (i := 270) (by decide +kernel), List.mem_of_getElem? (i := 585) (by decide +kernel), List.mem_of_getElem? (i := 586) (by decide +kernel)⟩
theorem lw_p4 : lw_okq (⟨"RingBars$Reader", "refuse", "(I)Z"⟩, 9) := ⟨⟨by decide +kernel, by decide +kernel⟩, List.mem_of_getElem? (i := 270) (by decide +kernel), List.mem_of_getElem? (i := 606) (by decide +kernel), List.mem_of_getElem? (i := 607) (by decide +kernel)⟩
theorem lw_p5 : lw_okq (⟨"RingBars$Reader", "lawHead", "(II)Z"⟩, 9) := ⟨⟨by decide +kernel, by decide +kernel⟩, List.mem_of_getElem? (i := 270) (by decide +kernel), List.mem_of_getElem? (i := 610) (by decide +kernel), List.mem_of_getElem? (i := 611) (by decide +kernel)⟩
theorem lw_p6 : lw_okq (⟨"RingBars$Reader", "number", "(II)Z"⟩, 9) := ⟨⟨by decide +kernel, by decide +kernel⟩, List.mem_of_getElem? (i := 270) (by decide +kernel), List.mem_of_getElem? (i := 614) (by decide +kernel), List.mem_of_getElem? (i := 615) (by decide +kernel)⟩
theorem lw_p7 : lw_okq (⟨"RingBars$Reader", "sum", "()Z"⟩, 9) := ⟨⟨by decide +kernel, by decide +kernel⟩, List.mem_of_getElem? (i := 270) (by decide +kernel), List.mem_of_getElem? (i := 618) (by decide +kernel), List.mem_of_getElem? (i := 619) (by decide +kernel)⟩
theorem lw_p8 : lw_okq (⟨"RingBars$Reader", "term", "()Z"⟩, 9) := ⟨⟨by decide +kernel, by decide +kernel⟩, List.mem_of_getElem? (i := 270) (by decide +kernel), List.mem_of_getElem? (i := 622) (by decide +kernel), List.mem_of_getElem? (i := 623) (by decide +kernel)⟩
theorem lw_p9 : lw_okq (⟨"RingBars$Reader", "isUnit", "(I)Z"⟩, 9) := ⟨⟨by decide +kernel, by decide +kernel⟩, List.mem_of_getElem? (i := 270) (by decide +kernel), List.mem_of_getElem? (i := 626) (by decide +kernel), List.mem_of_getElem? (i := 627) (by decide +kernel)⟩
theorem lw_p10 : lw_okq (⟨"RingBars$Reader", "jobHead", "(II)Z"⟩, 9) := ⟨⟨by decide +kernel, by decide +kernel⟩, List.mem_of_getElem? (i := 270) (by decide +kernel), List.mem_of_getElem? (i := 635) (by decide +kernel), List.mem_of_getElem? (i := 636) (by decide +kernel)⟩
theorem lw_p11 : lw_okq (⟨"RingBars$Reader", "either", "(I)Z"⟩, 9) := ⟨⟨by decide +kernel, by decide +kernel⟩, List.mem_of_getElem? (i := 270) (by decide +kernel), List.mem_of_getElem? (i := 639) (by decide +kernel), List.mem_of_getElem? (i := 640) (by decide +kernel)⟩
theorem lw_p12 : lw_okq (⟨"RingBars$Reader", "both", "(I)Z"⟩, 9) := ⟨⟨by decide +kernel, by decide +kernel⟩, List.mem_of_getElem? (i := 270) (by decide +kernel), List.mem_of_getElem? (i := 643) (by decide +kernel), List.mem_of_getElem? (i := 644) (by decide +kernel)⟩
theorem lw_p13 : lw_okq (⟨"RingBars$Reader", "part", "(I)Z"⟩, 9) := ⟨⟨by decide +kernel, by decide +kernel⟩, List.mem_of_getElem? (i := 270) (by decide +kernel), List.mem_of_getElem? (i := 647) (by decide +kernel), List.mem_of_getElem? (i := 648) (by decide +kernel)⟩
theorem lw_p14 : lw_okq (⟨"RingBars$Reader", "opened", "(II)Z"⟩, 9) := ⟨⟨by decide +kernel, by decide +kernel⟩, List.mem_of_getElem? (i := 270) (by decide +kernel), List.mem_of_getElem? (i := 651) (by decide +kernel), List.mem_of_getElem? (i := 652) (by decide +kernel)⟩
theorem lw_p15 : lw_okq (⟨"RingBars", "toneNow", "(LRingBars$Bar;I)I"⟩, 12) := ⟨⟨by decide +kernel, by decide +kernel⟩, List.mem_of_getElem? (i := 20) (by decide +kernel), List.mem_of_getElem? (i := 713) (by decide +kernel), List.mem_of_getElem? (i := 714) (by decide +kernel)⟩
def lw_privs_1 : List (MethodName × Nat) := [(⟨"RingBars", "barAt", "(I)LRingBars$Bar;"⟩, 12), (⟨"RingBars", "addBytes", "(I)V"⟩, 12), (⟨"RingBars", "textAt", "(II)LRingBars$Text;"⟩, 12), (⟨"RingBars$Reader", "addToken", "(III)V"⟩, 9), (⟨"RingBars$Reader", "refuse", "(I)Z"⟩, 9), (⟨"RingBars$Reader", "lawHead", "(II)Z"⟩, 9), (⟨"RingBars$Reader", "number", "(II)Z"⟩, 9), (⟨"RingBars$Reader", "sum", "()Z"⟩, 9), (⟨"RingBars$Reader", "term", "()Z"⟩, 9), (⟨"RingBars$Reader", "isUnit", "(I)Z"⟩, 9), (⟨"RingBars$Reader", "jobHead", "(II)Z"⟩, 9), (⟨"RingBars$Reader", "either", "(I)Z"⟩, 9), (⟨"RingBars$Reader", "both", "(I)Z"⟩, 9), (⟨"RingBars$Reader", "part", "(I)Z"⟩, 9), (⟨"RingBars$Reader", "opened", "(II)Z"⟩, 9), (⟨"RingBars", "toneNow", "(LRingBars$Bar;I)I"⟩, 12)]
theorem lw_r1 : ∀ q ∈ lw_privs_1, lw_okq q := List.forall_mem_cons.mpr ⟨lw_p0, List.forall_mem_cons.mpr ⟨lw_p1, List.forall_mem_cons.mpr ⟨lw_p2, List.forall_mem_cons.mpr ⟨lw_p3, List.forall_mem_cons.mpr ⟨lw_p4, List.forall_mem_cons.mpr ⟨lw_p5, List.forall_mem_cons.mpr ⟨lw_p6, List.forall_mem_cons.mpr ⟨lw_p7, List.forall_mem_cons.mpr ⟨lw_p8, List.forall_mem_cons.mpr ⟨lw_p9, List.forall_mem_cons.mpr ⟨lw_p10, List.forall_mem_cons.mpr ⟨lw_p11, List.forall_mem_cons.mpr ⟨lw_p12, List.forall_mem_cons.mpr ⟨lw_p13, List.forall_mem_cons.mpr ⟨lw_p14, List.forall_mem_cons.mpr ⟨lw_p15, fun _ h => absurd h List.not_mem_nil⟩⟩⟩⟩⟩⟩⟩⟩⟩⟩⟩⟩⟩⟩⟩⟩
theorem lw_p16 : lw_okq (⟨"RingBars", "takeOff", "(LRingBars$Bar;II)I"⟩, 12) := ⟨⟨by decide +kernel, by decide +kernel⟩, List.mem_of_getElem? (i := 20) (by decide +kernel), List.mem_of_getElem? (i := 735) (by decide +kernel), List.mem_of_getElem? (i := 736) (by decide +kernel)⟩
theorem lw_p17 : lw_okq (⟨"RingBars", "isLost", "(LRingBars$Bar;)Z"⟩, 12) := ⟨⟨by decide +kernel, by decide +kernel⟩, List.mem_of_getElem? (i := 20) (by decide +kernel), List.mem_of_getElem? (i := 739) (by decide +kernel), List.mem_of_getElem? (i := 740) (by decide +kernel)⟩
theorem lw_p18 : lw_okq (⟨"RingBars", "isTrue", "(LRingBars$Bar;)Z"⟩, 12) := ⟨⟨by decide +kernel, by decide +kernel⟩, List.mem_of_getElem? (i := 20) (by decide +kernel), List.mem_of_getElem? (i := 760) (by decide +kernel), List.mem_of_getElem? (i := 761) (by decide +kernel)⟩
theorem lw_p19 : lw_okq (⟨"RingBars", "amiss", "(LRingBars$Bar;)I"⟩, 12) := ⟨⟨by decide +kernel, by decide +kernel⟩, List.mem_of_getElem? (i := 20) (by decide +kernel), List.mem_of_getElem? (i := 765) (by decide +kernel), List.mem_of_getElem? (i := 766) (by decide +kernel)⟩
theorem lw_p20 : lw_okq (⟨"RingBars", "findPoints", "(LRingBars$Bar;I)I"⟩, 12) := ⟨⟨by decide +kernel, by decide +kernel⟩, List.mem_of_getElem? (i := 20) (by decide +kernel), List.mem_of_getElem? (i := 769) (by decide +kernel), List.mem_of_getElem? (i := 770) (by decide +kernel)⟩
theorem lw_p21 : lw_okq (⟨"RingBars", "comesTrue", "(LRingBars$Text;ILRingBars$Bar;)Z"⟩, 12) := ⟨⟨by decide +kernel, by decide +kernel⟩, List.mem_of_getElem? (i := 20) (by decide +kernel), List.mem_of_getElem? (i := 787) (by decide +kernel), List.mem_of_getElem? (i := 788) (by decide +kernel)⟩
theorem lw_p22 : lw_okq (⟨"RingBars", "doLine", "(LRingBars$Text;ILRingBars$Bar;)V"⟩, 12) := ⟨⟨by decide +kernel, by decide +kernel⟩, List.mem_of_getElem? (i := 20) (by decide +kernel), List.mem_of_getElem? (i := 797) (by decide +kernel), List.mem_of_getElem? (i := 798) (by decide +kernel)⟩
theorem lw_p23 : lw_okq (⟨"RingBars$PassSearch", "fill", "(LRingBars$Sums;LRingBars$Text;II)V"⟩, 12) := ⟨⟨by decide +kernel, by decide +kernel⟩, List.mem_of_getElem? (i := 322) (by decide +kernel), List.mem_of_getElem? (i := 812) (by decide +kernel), List.mem_of_getElem? (i := 813) (by decide +kernel)⟩
theorem lw_p24 : lw_okq (⟨"RingBars$PassSearch", "isTrueNow", "()Z"⟩, 12) := ⟨⟨by decide +kernel, by decide +kernel⟩, List.mem_of_getElem? (i := 322) (by decide +kernel), List.mem_of_getElem? (i := 824) (by decide +kernel), List.mem_of_getElem? (i := 825) (by decide +kernel)⟩
theorem lw_p25 : lw_okq (⟨"RingBars$PassSearch", "isNear", "(IIIZ)Z"⟩, 12) := ⟨⟨by decide +kernel, by decide +kernel⟩, List.mem_of_getElem? (i := 322) (by decide +kernel), List.mem_of_getElem? (i := 828) (by decide +kernel), List.mem_of_getElem? (i := 829) (by decide +kernel)⟩
theorem lw_p26 : lw_okq (⟨"RingBars$PassSearch", "goOn", "(II)Z"⟩, 12) := ⟨⟨by decide +kernel, by decide +kernel⟩, List.mem_of_getElem? (i := 322) (by decide +kernel), List.mem_of_getElem? (i := 838) (by decide +kernel), List.mem_of_getElem? (i := 839) (by decide +kernel)⟩
theorem lw_p27 : lw_okq (⟨"RingBars$PassSearch", "isNearBehind", "(IZ)Z"⟩, 12) := ⟨⟨by decide +kernel, by decide +kernel⟩, List.mem_of_getElem? (i := 322) (by decide +kernel), List.mem_of_getElem? (i := 842) (by decide +kernel), List.mem_of_getElem? (i := 843) (by decide +kernel)⟩
theorem lw_p28 : lw_okq (⟨"RingBars$PassSearch", "isReached", "(III)Z"⟩, 12) := ⟨⟨by decide +kernel, by decide +kernel⟩, List.mem_of_getElem? (i := 322) (by decide +kernel), List.mem_of_getElem? (i := 846) (by decide +kernel), List.mem_of_getElem? (i := 847) (by decide +kernel)⟩
theorem lw_p29 : lw_okq (⟨"RingBars$PassSearch", "move", "(II)V"⟩, 12) := ⟨⟨by decide +kernel, by decide +kernel⟩, List.mem_of_getElem? (i := 322) (by decide +kernel), List.mem_of_getElem? (i := 850) (by decide +kernel), List.mem_of_getElem? (i := 851) (by decide +kernel)⟩
theorem lw_p30 : lw_okq (⟨"RingBars$GrainSearch", "fill", "(LRingBars$Sums;LRingBars$Text;LRingBars$Bar;II[I[I)V"⟩, 8) := ⟨⟨by decide +kernel, by decide +kernel⟩, List.mem_of_getElem? (i := 380) (by decide +kernel), List.mem_of_getElem? (i := 879) (by decide +kernel), List.mem_of_getElem? (i := 880) (by decide +kernel)⟩
theorem lw_p31 : lw_okq (⟨"RingBars$GrainSearch", "unfold", "(I)V"⟩, 8) := ⟨⟨by decide +kernel, by decide +kernel⟩, List.mem_of_getElem? (i := 380) (by decide +kernel), List.mem_of_getElem? (i := 888) (by decide +kernel), List.mem_of_getElem? (i := 889) (by decide +kernel)⟩
def lw_privs_2 : List (MethodName × Nat) := [(⟨"RingBars", "takeOff", "(LRingBars$Bar;II)I"⟩, 12), (⟨"RingBars", "isLost", "(LRingBars$Bar;)Z"⟩, 12), (⟨"RingBars", "isTrue", "(LRingBars$Bar;)Z"⟩, 12), (⟨"RingBars", "amiss", "(LRingBars$Bar;)I"⟩, 12), (⟨"RingBars", "findPoints", "(LRingBars$Bar;I)I"⟩, 12), (⟨"RingBars", "comesTrue", "(LRingBars$Text;ILRingBars$Bar;)Z"⟩, 12), (⟨"RingBars", "doLine", "(LRingBars$Text;ILRingBars$Bar;)V"⟩, 12), (⟨"RingBars$PassSearch", "fill", "(LRingBars$Sums;LRingBars$Text;II)V"⟩, 12), (⟨"RingBars$PassSearch", "isTrueNow", "()Z"⟩, 12), (⟨"RingBars$PassSearch", "isNear", "(IIIZ)Z"⟩, 12), (⟨"RingBars$PassSearch", "goOn", "(II)Z"⟩, 12), (⟨"RingBars$PassSearch", "isNearBehind", "(IZ)Z"⟩, 12), (⟨"RingBars$PassSearch", "isReached", "(III)Z"⟩, 12), (⟨"RingBars$PassSearch", "move", "(II)V"⟩, 12), (⟨"RingBars$GrainSearch", "fill", "(LRingBars$Sums;LRingBars$Text;LRingBars$Bar;II[I[I)V"⟩, 8), (⟨"RingBars$GrainSearch", "unfold", "(I)V"⟩, 8)]
theorem lw_r2 : ∀ q ∈ lw_privs_2, lw_okq q := List.forall_mem_cons.mpr ⟨lw_p16, List.forall_mem_cons.mpr ⟨lw_p17, List.forall_mem_cons.mpr ⟨lw_p18, List.forall_mem_cons.mpr ⟨lw_p19, List.forall_mem_cons.mpr ⟨lw_p20, List.forall_mem_cons.mpr ⟨lw_p21, List.forall_mem_cons.mpr ⟨lw_p22, List.forall_mem_cons.mpr ⟨lw_p23, List.forall_mem_cons.mpr ⟨lw_p24, List.forall_mem_cons.mpr ⟨lw_p25, List.forall_mem_cons.mpr ⟨lw_p26, List.forall_mem_cons.mpr ⟨lw_p27, List.forall_mem_cons.mpr ⟨lw_p28, List.forall_mem_cons.mpr ⟨lw_p29, List.forall_mem_cons.mpr ⟨lw_p30, List.forall_mem_cons.mpr ⟨lw_p31, fun _ h => absurd h List.not_mem_nil⟩⟩⟩⟩⟩⟩⟩⟩⟩⟩⟩⟩⟩⟩⟩⟩
theorem lw_p32 : lw_okq (⟨"RingBars$GrainSearch", "isHeard", "(LRingBars$Bar;I)Z"⟩, 8) := ⟨⟨by decide +kernel, by decide +kernel⟩, List.mem_of_getElem? (i := 380) (by decide +kernel), List.mem_of_getElem? (i := 892) (by decide +kernel), List.mem_of_getElem? (i := 893) (by decide +kernel)⟩
theorem lw_p33 : lw_okq (⟨"RingBars$GrainSearch", "toneAt", "(LRingBars$Bar;I)I"⟩, 8) := ⟨⟨by decide +kernel, by decide +kernel⟩, List.mem_of_getElem? (i := 380) (by decide +kernel), List.mem_of_getElem? (i := 896) (by decide +kernel), List.mem_of_getElem? (i := 897) (by decide +kernel)⟩
theorem lw_p34 : lw_okq (⟨"RingBars$GrainSearch", "countUnlike", "(LRingBars$Sums;LRingBars$Text;LRingBars$Bar;I)I"⟩, 8) := ⟨⟨by decide +kernel, by decide +kernel⟩, List.mem_of_getElem? (i := 380) (by decide +kernel), List.mem_of_getElem? (i := 906) (by decide +kernel), List.mem_of_getElem? (i := 907) (by decide +kernel)⟩
theorem lw_p35 : lw_okq (⟨"RingBars", "offOf", "(LRingBars$Text;)I"⟩, 12) := ⟨⟨by decide +kernel, by decide +kernel⟩, List.mem_of_getElem? (i := 20) (by decide +kernel), List.mem_of_getElem? (i := 921) (by decide +kernel), List.mem_of_getElem? (i := 922) (by decide +kernel)⟩
theorem lw_p36 : lw_okq (⟨"RingBars", "driftIn", "(II)I"⟩, 12) := ⟨⟨by decide +kernel, by decide +kernel⟩, List.mem_of_getElem? (i := 20) (by decide +kernel), List.mem_of_getElem? (i := 948) (by decide +kernel), List.mem_of_getElem? (i := 949) (by decide +kernel)⟩
theorem lw_p37 : lw_okq (⟨"RingBars", "fillLowTones", "()V"⟩, 12) := ⟨⟨by decide +kernel, by decide +kernel⟩, List.mem_of_getElem? (i := 20) (by decide +kernel), List.mem_of_getElem? (i := 984) (by decide +kernel), List.mem_of_getElem? (i := 985) (by decide +kernel)⟩
theorem lw_p38 : lw_okq (⟨"RingBars", "apart", "()I"⟩, 12) := ⟨⟨by decide +kernel, by decide +kernel⟩, List.mem_of_getElem? (i := 20) (by decide +kernel), List.mem_of_getElem? (i := 988) (by decide +kernel), List.mem_of_getElem? (i := 989) (by decide +kernel)⟩
theorem lw_p39 : lw_okq (⟨"RingBars", "suiting", "(I)I"⟩, 12) := ⟨⟨by decide +kernel, by decide +kernel⟩, List.mem_of_getElem? (i := 20) (by decide +kernel), List.mem_of_getElem? (i := 992) (by decide +kernel), List.mem_of_getElem? (i := 993) (by decide +kernel)⟩
theorem lw_p40 : lw_okq (⟨"RingBars", "worst", "(II)I"⟩, 12) := ⟨⟨by decide +kernel, by decide +kernel⟩, List.mem_of_getElem? (i := 20) (by decide +kernel), List.mem_of_getElem? (i := 996) (by decide +kernel), List.mem_of_getElem? (i := 997) (by decide +kernel)⟩
theorem lw_p41 : lw_okq (⟨"RingBars", "beatIn", "(IIII)I"⟩, 12) := ⟨⟨by decide +kernel, by decide +kernel⟩, List.mem_of_getElem? (i := 20) (by decide +kernel), List.mem_of_getElem? (i := 1000) (by decide +kernel), List.mem_of_getElem? (i := 1001) (by decide +kernel)⟩
theorem lw_p42 : lw_okq (⟨"RingBars", "together", "(I)I"⟩, 12) := ⟨⟨by decide +kernel, by decide +kernel⟩, List.mem_of_getElem? (i := 20) (by decide +kernel), List.mem_of_getElem? (i := 1004) (by decide +kernel), List.mem_of_getElem? (i := 1005) (by decide +kernel)⟩
theorem lw_p43 : lw_okq (⟨"RingBars$SetSearch", "goOn", "(LRingBars$World;III)V"⟩, 5) := ⟨⟨by decide +kernel, by decide +kernel⟩, List.mem_of_getElem? (i := 413) (by decide +kernel), List.mem_of_getElem? (i := 1028) (by decide +kernel), List.mem_of_getElem? (i := 1029) (by decide +kernel)⟩
theorem lw_p44 : lw_okq (⟨"RingBars$SetSearch", "ringsTogether", "(LRingBars$World;II)Z"⟩, 5) := ⟨⟨by decide +kernel, by decide +kernel⟩, List.mem_of_getElem? (i := 413) (by decide +kernel), List.mem_of_getElem? (i := 1033) (by decide +kernel), List.mem_of_getElem? (i := 1034) (by decide +kernel)⟩
theorem lw_p45 : lw_okq (⟨"RingBars", "countLost", "()I"⟩, 12) := ⟨⟨by decide +kernel, by decide +kernel⟩, List.mem_of_getElem? (i := 20) (by decide +kernel), List.mem_of_getElem? (i := 1069) (by decide +kernel), List.mem_of_getElem? (i := 1070) (by decide +kernel)⟩
theorem lw_p46 : lw_okq (⟨"RingBars", "countTrue", "()I"⟩, 12) := ⟨⟨by decide +kernel, by decide +kernel⟩, List.mem_of_getElem? (i := 20) (by decide +kernel), List.mem_of_getElem? (i := 1073) (by decide +kernel), List.mem_of_getElem? (i := 1074) (by decide +kernel)⟩
theorem lw_p47 : lw_okq (⟨"RingBarsModel", "isIn", "(III)Z"⟩, 74) := ⟨⟨by decide +kernel, by decide +kernel⟩, List.mem_of_getElem? (i := 1077) (by decide +kernel), List.mem_of_getElem? (i := 1310) (by decide +kernel), List.mem_of_getElem? (i := 1311) (by decide +kernel)⟩
def lw_privs_3 : List (MethodName × Nat) := [(⟨"RingBars$GrainSearch", "isHeard", "(LRingBars$Bar;I)Z"⟩, 8), (⟨"RingBars$GrainSearch", "toneAt", "(LRingBars$Bar;I)I"⟩, 8), (⟨"RingBars$GrainSearch", "countUnlike", "(LRingBars$Sums;LRingBars$Text;LRingBars$Bar;I)I"⟩, 8), (⟨"RingBars", "offOf", "(LRingBars$Text;)I"⟩, 12), (⟨"RingBars", "driftIn", "(II)I"⟩, 12), (⟨"RingBars", "fillLowTones", "()V"⟩, 12), (⟨"RingBars", "apart", "()I"⟩, 12), (⟨"RingBars", "suiting", "(I)I"⟩, 12), (⟨"RingBars", "worst", "(II)I"⟩, 12), (⟨"RingBars", "beatIn", "(IIII)I"⟩, 12), (⟨"RingBars", "together", "(I)I"⟩, 12), (⟨"RingBars$SetSearch", "goOn", "(LRingBars$World;III)V"⟩, 5), (⟨"RingBars$SetSearch", "ringsTogether", "(LRingBars$World;II)Z"⟩, 5), (⟨"RingBars", "countLost", "()I"⟩, 12), (⟨"RingBars", "countTrue", "()I"⟩, 12), (⟨"RingBarsModel", "isIn", "(III)Z"⟩, 74)]
theorem lw_r3 : ∀ q ∈ lw_privs_3, lw_okq q := List.forall_mem_cons.mpr ⟨lw_p32, List.forall_mem_cons.mpr ⟨lw_p33, List.forall_mem_cons.mpr ⟨lw_p34, List.forall_mem_cons.mpr ⟨lw_p35, List.forall_mem_cons.mpr ⟨lw_p36, List.forall_mem_cons.mpr ⟨lw_p37, List.forall_mem_cons.mpr ⟨lw_p38, List.forall_mem_cons.mpr ⟨lw_p39, List.forall_mem_cons.mpr ⟨lw_p40, List.forall_mem_cons.mpr ⟨lw_p41, List.forall_mem_cons.mpr ⟨lw_p42, List.forall_mem_cons.mpr ⟨lw_p43, List.forall_mem_cons.mpr ⟨lw_p44, List.forall_mem_cons.mpr ⟨lw_p45, List.forall_mem_cons.mpr ⟨lw_p46, List.forall_mem_cons.mpr ⟨lw_p47, fun _ h => absurd h List.not_mem_nil⟩⟩⟩⟩⟩⟩⟩⟩⟩⟩⟩⟩⟩⟩⟩⟩
theorem lw_p48 : lw_okq (⟨"RingBarsModel", "isSlice", "(II)Z"⟩, 74) := ⟨⟨by decide +kernel, by decide +kernel⟩, List.mem_of_getElem? (i := 1077) (by decide +kernel), List.mem_of_getElem? (i := 1318) (by decide +kernel), List.mem_of_getElem? (i := 1319) (by decide +kernel)⟩
theorem lw_p49 : lw_okq (⟨"RingBarsModel", "isBar", "(I)Z"⟩, 74) := ⟨⟨by decide +kernel, by decide +kernel⟩, List.mem_of_getElem? (i := 1077) (by decide +kernel), List.mem_of_getElem? (i := 1322) (by decide +kernel), List.mem_of_getElem? (i := 1323) (by decide +kernel)⟩
theorem lw_p50 : lw_okq (⟨"RingBarsModel", "puts", "(I)V"⟩, 74) := ⟨⟨by decide +kernel, by decide +kernel⟩, List.mem_of_getElem? (i := 1077) (by decide +kernel), List.mem_of_getElem? (i := 1338) (by decide +kernel), List.mem_of_getElem? (i := 1339) (by decide +kernel)⟩
theorem lw_p51 : lw_okq (⟨"RingBarsModel", "reads", "()V"⟩, 74) := ⟨⟨by decide +kernel, by decide +kernel⟩, List.mem_of_getElem? (i := 1077) (by decide +kernel), List.mem_of_getElem? (i := 1350) (by decide +kernel), List.mem_of_getElem? (i := 1351) (by decide +kernel)⟩
theorem lw_p52 : lw_okq (⟨"RingBarsModel", "raw", "(I)I"⟩, 74) := ⟨⟨by decide +kernel, by decide +kernel⟩, List.mem_of_getElem? (i := 1077) (by decide +kernel), List.mem_of_getElem? (i := 1354) (by decide +kernel), List.mem_of_getElem? (i := 1355) (by decide +kernel)⟩
theorem lw_p53 : lw_okq (⟨"RingBarsModel", "isLetter", "(I)Z"⟩, 74) := ⟨⟨by decide +kernel, by decide +kernel⟩, List.mem_of_getElem? (i := 1077) (by decide +kernel), List.mem_of_getElem? (i := 1358) (by decide +kernel), List.mem_of_getElem? (i := 1359) (by decide +kernel)⟩
theorem lw_p54 : lw_okq (⟨"RingBarsModel", "wordAt", "(II)I"⟩, 74) := ⟨⟨by decide +kernel, by decide +kernel⟩, List.mem_of_getElem? (i := 1077) (by decide +kernel), List.mem_of_getElem? (i := 1362) (by decide +kernel), List.mem_of_getElem? (i := 1363) (by decide +kernel)⟩
theorem lw_p55 : lw_okq (⟨"RingBarsModel", "isDigit", "(I)Z"⟩, 74) := ⟨⟨by decide +kernel, by decide +kernel⟩, List.mem_of_getElem? (i := 1077) (by decide +kernel), List.mem_of_getElem? (i := 1366) (by decide +kernel), List.mem_of_getElem? (i := 1367) (by decide +kernel)⟩
theorem lw_p56 : lw_okq (⟨"RingBarsModel", "isMarkSign", "(I)Z"⟩, 74) := ⟨⟨by decide +kernel, by decide +kernel⟩, List.mem_of_getElem? (i := 1077) (by decide +kernel), List.mem_of_getElem? (i := 1371) (by decide +kernel), List.mem_of_getElem? (i := 1372) (by decide +kernel)⟩
theorem lw_p57 : lw_okq (⟨"RingBarsModel", "readText", "()I"⟩, 74) := ⟨⟨by decide +kernel, by decide +kernel⟩, List.mem_of_getElem? (i := 1077) (by decide +kernel), List.mem_of_getElem? (i := 1375) (by decide +kernel), List.mem_of_getElem? (i := 1376) (by decide +kernel)⟩
theorem lw_p58 : lw_okq (⟨"RingBarsModel", "isBegin", "()Z"⟩, 74) := ⟨⟨by decide +kernel, by decide +kernel⟩, List.mem_of_getElem? (i := 1077) (by decide +kernel), List.mem_of_getElem? (i := 1379) (by decide +kernel), List.mem_of_getElem? (i := 1380) (by decide +kernel)⟩
theorem lw_p59 : lw_okq (⟨"RingBarsModel", "fails", "(I)I"⟩, 74) := ⟨⟨by decide +kernel, by decide +kernel⟩, List.mem_of_getElem? (i := 1077) (by decide +kernel), List.mem_of_getElem? (i := 1383) (by decide +kernel), List.mem_of_getElem? (i := 1384) (by decide +kernel)⟩
theorem lw_p60 : lw_okq (⟨"RingBarsModel", "readLine", "(I)I"⟩, 74) := ⟨⟨by decide +kernel, by decide +kernel⟩, List.mem_of_getElem? (i := 1077) (by decide +kernel), List.mem_of_getElem? (i := 1387) (by decide +kernel), List.mem_of_getElem? (i := 1388) (by decide +kernel)⟩
theorem lw_p61 : lw_okq (⟨"RingBarsModel", "readNumbers", "(II)I"⟩, 74) := ⟨⟨by decide +kernel, by decide +kernel⟩, List.mem_of_getElem? (i := 1077) (by decide +kernel), List.mem_of_getElem? (i := 1391) (by decide +kernel), List.mem_of_getElem? (i := 1392) (by decide +kernel)⟩
theorem lw_p62 : lw_okq (⟨"RingBarsModel", "readNumber", "(II)I"⟩, 74) := ⟨⟨by decide +kernel, by decide +kernel⟩, List.mem_of_getElem? (i := 1077) (by decide +kernel), List.mem_of_getElem? (i := 1395) (by decide +kernel), List.mem_of_getElem? (i := 1396) (by decide +kernel)⟩
theorem lw_p63 : lw_okq (⟨"RingBarsModel", "readSum", "()I"⟩, 74) := ⟨⟨by decide +kernel, by decide +kernel⟩, List.mem_of_getElem? (i := 1077) (by decide +kernel), List.mem_of_getElem? (i := 1399) (by decide +kernel), List.mem_of_getElem? (i := 1400) (by decide +kernel)⟩
def lw_privs_4 : List (MethodName × Nat) := [(⟨"RingBarsModel", "isSlice", "(II)Z"⟩, 74), (⟨"RingBarsModel", "isBar", "(I)Z"⟩, 74), (⟨"RingBarsModel", "puts", "(I)V"⟩, 74), (⟨"RingBarsModel", "reads", "()V"⟩, 74), (⟨"RingBarsModel", "raw", "(I)I"⟩, 74), (⟨"RingBarsModel", "isLetter", "(I)Z"⟩, 74), (⟨"RingBarsModel", "wordAt", "(II)I"⟩, 74), (⟨"RingBarsModel", "isDigit", "(I)Z"⟩, 74), (⟨"RingBarsModel", "isMarkSign", "(I)Z"⟩, 74), (⟨"RingBarsModel", "readText", "()I"⟩, 74), (⟨"RingBarsModel", "isBegin", "()Z"⟩, 74), (⟨"RingBarsModel", "fails", "(I)I"⟩, 74), (⟨"RingBarsModel", "readLine", "(I)I"⟩, 74), (⟨"RingBarsModel", "readNumbers", "(II)I"⟩, 74), (⟨"RingBarsModel", "readNumber", "(II)I"⟩, 74), (⟨"RingBarsModel", "readSum", "()I"⟩, 74)]
theorem lw_r4 : ∀ q ∈ lw_privs_4, lw_okq q := List.forall_mem_cons.mpr ⟨lw_p48, List.forall_mem_cons.mpr ⟨lw_p49, List.forall_mem_cons.mpr ⟨lw_p50, List.forall_mem_cons.mpr ⟨lw_p51, List.forall_mem_cons.mpr ⟨lw_p52, List.forall_mem_cons.mpr ⟨lw_p53, List.forall_mem_cons.mpr ⟨lw_p54, List.forall_mem_cons.mpr ⟨lw_p55, List.forall_mem_cons.mpr ⟨lw_p56, List.forall_mem_cons.mpr ⟨lw_p57, List.forall_mem_cons.mpr ⟨lw_p58, List.forall_mem_cons.mpr ⟨lw_p59, List.forall_mem_cons.mpr ⟨lw_p60, List.forall_mem_cons.mpr ⟨lw_p61, List.forall_mem_cons.mpr ⟨lw_p62, List.forall_mem_cons.mpr ⟨lw_p63, fun _ h => absurd h List.not_mem_nil⟩⟩⟩⟩⟩⟩⟩⟩⟩⟩⟩⟩⟩⟩⟩⟩
theorem lw_p64 : lw_okq (⟨"RingBarsModel", "readProduct", "()I"⟩, 74) := ⟨⟨by decide +kernel, by decide +kernel⟩, List.mem_of_getElem? (i := 1077) (by decide +kernel), List.mem_of_getElem? (i := 1403) (by decide +kernel), List.mem_of_getElem? (i := 1404) (by decide +kernel)⟩
theorem lw_p65 : lw_okq (⟨"RingBarsModel", "readUnit", "()I"⟩, 74) := ⟨⟨by decide +kernel, by decide +kernel⟩, List.mem_of_getElem? (i := 1077) (by decide +kernel), List.mem_of_getElem? (i := 1407) (by decide +kernel), List.mem_of_getElem? (i := 1408) (by decide +kernel)⟩
theorem lw_p66 : lw_okq (⟨"RingBarsModel", "emits", "(II)V"⟩, 74) := ⟨⟨by decide +kernel, by decide +kernel⟩, List.mem_of_getElem? (i := 1077) (by decide +kernel), List.mem_of_getElem? (i := 1411) (by decide +kernel), List.mem_of_getElem? (i := 1412) (by decide +kernel)⟩
theorem lw_p67 : lw_okq (⟨"RingBarsModel", "isSign", "(I)Z"⟩, 74) := ⟨⟨by decide +kernel, by decide +kernel⟩, List.mem_of_getElem? (i := 1077) (by decide +kernel), List.mem_of_getElem? (i := 1415) (by decide +kernel), List.mem_of_getElem? (i := 1416) (by decide +kernel)⟩
theorem lw_p68 : lw_okq (⟨"RingBarsModel", "isWord", "(I)Z"⟩, 74) := ⟨⟨by decide +kernel, by decide +kernel⟩, List.mem_of_getElem? (i := 1077) (by decide +kernel), List.mem_of_getElem? (i := 1419) (by decide +kernel), List.mem_of_getElem? (i := 1420) (by decide +kernel)⟩
theorem lw_p69 : lw_okq (⟨"RingBarsModel", "readAny", "()I"⟩, 74) := ⟨⟨by decide +kernel, by decide +kernel⟩, List.mem_of_getElem? (i := 1077) (by decide +kernel), List.mem_of_getElem? (i := 1423) (by decide +kernel), List.mem_of_getElem? (i := 1424) (by decide +kernel)⟩
theorem lw_p70 : lw_okq (⟨"RingBarsModel", "waits", "(I)V"⟩, 74) := ⟨⟨by decide +kernel, by decide +kernel⟩, List.mem_of_getElem? (i := 1077) (by decide +kernel), List.mem_of_getElem? (i := 1427) (by decide +kernel), List.mem_of_getElem? (i := 1428) (by decide +kernel)⟩
theorem lw_p71 : lw_okq (⟨"RingBarsModel", "readCompared", "()I"⟩, 74) := ⟨⟨by decide +kernel, by decide +kernel⟩, List.mem_of_getElem? (i := 1077) (by decide +kernel), List.mem_of_getElem? (i := 1431) (by decide +kernel), List.mem_of_getElem? (i := 1432) (by decide +kernel)⟩
theorem lw_p72 : lw_okq (⟨"RingBarsModel", "settles", "(I)V"⟩, 74) := ⟨⟨by decide +kernel, by decide +kernel⟩, List.mem_of_getElem? (i := 1077) (by decide +kernel), List.mem_of_getElem? (i := 1435) (by decide +kernel), List.mem_of_getElem? (i := 1436) (by decide +kernel)⟩
theorem lw_p73 : lw_okq (⟨"RingBarsModel", "isLaw", "(I)Z"⟩, 74) := ⟨⟨by decide +kernel, by decide +kernel⟩, List.mem_of_getElem? (i := 1077) (by decide +kernel), List.mem_of_getElem? (i := 1447) (by decide +kernel), List.mem_of_getElem? (i := 1448) (by decide +kernel)⟩
theorem lw_p74 : lw_okq (⟨"RingBarsModel", "isTone", "(I)Z"⟩, 74) := ⟨⟨by decide +kernel, by decide +kernel⟩, List.mem_of_getElem? (i := 1077) (by decide +kernel), List.mem_of_getElem? (i := 1455) (by decide +kernel), List.mem_of_getElem? (i := 1456) (by decide +kernel)⟩
theorem lw_p75 : lw_okq (⟨"RingBarsModel", "asksSlice", "(II)V"⟩, 74) := ⟨⟨by decide +kernel, by decide +kernel⟩, List.mem_of_getElem? (i := 1077) (by decide +kernel), List.mem_of_getElem? (i := 1460) (by decide +kernel), List.mem_of_getElem? (i := 1461) (by decide +kernel)⟩
theorem lw_p76 : lw_okq (⟨"RingBarsModel", "asks", "(IIIIII)V"⟩, 74) := ⟨⟨by decide +kernel, by decide +kernel⟩, List.mem_of_getElem? (i := 1077) (by decide +kernel), List.mem_of_getElem? (i := 1464) (by decide +kernel), List.mem_of_getElem? (i := 1465) (by decide +kernel)⟩
theorem lw_p77 : lw_okq (⟨"RingBarsModel", "size", "(I)I"⟩, 74) := ⟨⟨by decide +kernel, by decide +kernel⟩, List.mem_of_getElem? (i := 1077) (by decide +kernel), List.mem_of_getElem? (i := 1468) (by decide +kernel), List.mem_of_getElem? (i := 1469) (by decide +kernel)⟩
theorem lw_p78 : lw_okq (⟨"RingBarsModel", "tellsBy", "(III)I"⟩, 74) := ⟨⟨by decide +kernel, by decide +kernel⟩, List.mem_of_getElem? (i := 1077) (by decide +kernel), List.mem_of_getElem? (i := 1472) (by decide +kernel), List.mem_of_getElem? (i := 1473) (by decide +kernel)⟩
theorem lw_p79 : lw_okq (⟨"RingBarsModel", "isSo", "(II)Z"⟩, 74) := ⟨⟨by decide +kernel, by decide +kernel⟩, List.mem_of_getElem? (i := 1077) (by decide +kernel), List.mem_of_getElem? (i := 1476) (by decide +kernel), List.mem_of_getElem? (i := 1477) (by decide +kernel)⟩
def lw_privs_5 : List (MethodName × Nat) := [(⟨"RingBarsModel", "readProduct", "()I"⟩, 74), (⟨"RingBarsModel", "readUnit", "()I"⟩, 74), (⟨"RingBarsModel", "emits", "(II)V"⟩, 74), (⟨"RingBarsModel", "isSign", "(I)Z"⟩, 74), (⟨"RingBarsModel", "isWord", "(I)Z"⟩, 74), (⟨"RingBarsModel", "readAny", "()I"⟩, 74), (⟨"RingBarsModel", "waits", "(I)V"⟩, 74), (⟨"RingBarsModel", "readCompared", "()I"⟩, 74), (⟨"RingBarsModel", "settles", "(I)V"⟩, 74), (⟨"RingBarsModel", "isLaw", "(I)Z"⟩, 74), (⟨"RingBarsModel", "isTone", "(I)Z"⟩, 74), (⟨"RingBarsModel", "asksSlice", "(II)V"⟩, 74), (⟨"RingBarsModel", "asks", "(IIIIII)V"⟩, 74), (⟨"RingBarsModel", "size", "(I)I"⟩, 74), (⟨"RingBarsModel", "tellsBy", "(III)I"⟩, 74), (⟨"RingBarsModel", "isSo", "(II)Z"⟩, 74)]
theorem lw_r5 : ∀ q ∈ lw_privs_5, lw_okq q := List.forall_mem_cons.mpr ⟨lw_p64, List.forall_mem_cons.mpr ⟨lw_p65, List.forall_mem_cons.mpr ⟨lw_p66, List.forall_mem_cons.mpr ⟨lw_p67, List.forall_mem_cons.mpr ⟨lw_p68, List.forall_mem_cons.mpr ⟨lw_p69, List.forall_mem_cons.mpr ⟨lw_p70, List.forall_mem_cons.mpr ⟨lw_p71, List.forall_mem_cons.mpr ⟨lw_p72, List.forall_mem_cons.mpr ⟨lw_p73, List.forall_mem_cons.mpr ⟨lw_p74, List.forall_mem_cons.mpr ⟨lw_p75, List.forall_mem_cons.mpr ⟨lw_p76, List.forall_mem_cons.mpr ⟨lw_p77, List.forall_mem_cons.mpr ⟨lw_p78, List.forall_mem_cons.mpr ⟨lw_p79, fun _ h => absurd h List.not_mem_nil⟩⟩⟩⟩⟩⟩⟩⟩⟩⟩⟩⟩⟩⟩⟩⟩
theorem lw_p80 : lw_okq (⟨"RingBarsModel", "worth", "(III)I"⟩, 74) := ⟨⟨by decide +kernel, by decide +kernel⟩, List.mem_of_getElem? (i := 1077) (by decide +kernel), List.mem_of_getElem? (i := 1480) (by decide +kernel), List.mem_of_getElem? (i := 1481) (by decide +kernel)⟩
theorem lw_p81 : lw_okq (⟨"RingBarsModel", "twoOf", "(III)I"⟩, 74) := ⟨⟨by decide +kernel, by decide +kernel⟩, List.mem_of_getElem? (i := 1077) (by decide +kernel), List.mem_of_getElem? (i := 1484) (by decide +kernel), List.mem_of_getElem? (i := 1485) (by decide +kernel)⟩
theorem lw_p82 : lw_okq (⟨"RingBarsModel", "toneNow", "(II)I"⟩, 74) := ⟨⟨by decide +kernel, by decide +kernel⟩, List.mem_of_getElem? (i := 1077) (by decide +kernel), List.mem_of_getElem? (i := 1493) (by decide +kernel), List.mem_of_getElem? (i := 1494) (by decide +kernel)⟩
theorem lw_p83 : lw_okq (⟨"RingBarsModel", "toneBy", "(III)I"⟩, 74) := ⟨⟨by decide +kernel, by decide +kernel⟩, List.mem_of_getElem? (i := 1077) (by decide +kernel), List.mem_of_getElem? (i := 1497) (by decide +kernel), List.mem_of_getElem? (i := 1498) (by decide +kernel)⟩
theorem lw_p84 : lw_okq (⟨"RingBarsModel", "canPass", "(III)Z"⟩, 74) := ⟨⟨by decide +kernel, by decide +kernel⟩, List.mem_of_getElem? (i := 1077) (by decide +kernel), List.mem_of_getElem? (i := 1505) (by decide +kernel), List.mem_of_getElem? (i := 1506) (by decide +kernel)⟩
theorem lw_p85 : lw_okq (⟨"RingBarsModel", "takesOff", "(III)V"⟩, 74) := ⟨⟨by decide +kernel, by decide +kernel⟩, List.mem_of_getElem? (i := 1077) (by decide +kernel), List.mem_of_getElem? (i := 1509) (by decide +kernel), List.mem_of_getElem? (i := 1510) (by decide +kernel)⟩
theorem lw_p86 : lw_okq (⟨"RingBarsModel", "isLost", "(I)Z"⟩, 74) := ⟨⟨by decide +kernel, by decide +kernel⟩, List.mem_of_getElem? (i := 1077) (by decide +kernel), List.mem_of_getElem? (i := 1513) (by decide +kernel), List.mem_of_getElem? (i := 1514) (by decide +kernel)⟩
theorem lw_p87 : lw_okq (⟨"RingBarsModel", "asksJob", "(I)V"⟩, 74) := ⟨⟨by decide +kernel, by decide +kernel⟩, List.mem_of_getElem? (i := 1077) (by decide +kernel), List.mem_of_getElem? (i := 1539) (by decide +kernel), List.mem_of_getElem? (i := 1540) (by decide +kernel)⟩
theorem lw_p88 : lw_okq (⟨"RingBarsModel", "doesLine", "(II)V"⟩, 74) := ⟨⟨by decide +kernel, by decide +kernel⟩, List.mem_of_getElem? (i := 1077) (by decide +kernel), List.mem_of_getElem? (i := 1543) (by decide +kernel), List.mem_of_getElem? (i := 1544) (by decide +kernel)⟩
theorem lw_p89 : lw_okq (⟨"RingBarsModel", "findsFewest", "(I)I"⟩, 74) := ⟨⟨by decide +kernel, by decide +kernel⟩, List.mem_of_getElem? (i := 1077) (by decide +kernel), List.mem_of_getElem? (i := 1551) (by decide +kernel), List.mem_of_getElem? (i := 1552) (by decide +kernel)⟩
theorem lw_p90 : lw_okq (⟨"RingBarsModel", "findsTable", "(I)V"⟩, 74) := ⟨⟨by decide +kernel, by decide +kernel⟩, List.mem_of_getElem? (i := 1077) (by decide +kernel), List.mem_of_getElem? (i := 1555) (by decide +kernel), List.mem_of_getElem? (i := 1556) (by decide +kernel)⟩
theorem lw_p91 : lw_okq (⟨"RingBarsModel", "does", "(II)Z"⟩, 74) := ⟨⟨by decide +kernel, by decide +kernel⟩, List.mem_of_getElem? (i := 1077) (by decide +kernel), List.mem_of_getElem? (i := 1559) (by decide +kernel), List.mem_of_getElem? (i := 1560) (by decide +kernel)⟩
theorem lw_p92 : lw_okq (⟨"RingBarsModel", "wouldBe", "(I)I"⟩, 74) := ⟨⟨by decide +kernel, by decide +kernel⟩, List.mem_of_getElem? (i := 1077) (by decide +kernel), List.mem_of_getElem? (i := 1563) (by decide +kernel), List.mem_of_getElem? (i := 1564) (by decide +kernel)⟩
theorem lw_p93 : lw_okq (⟨"RingBarsModel", "toneByTable", "(II)I"⟩, 74) := ⟨⟨by decide +kernel, by decide +kernel⟩, List.mem_of_getElem? (i := 1077) (by decide +kernel), List.mem_of_getElem? (i := 1567) (by decide +kernel), List.mem_of_getElem? (i := 1568) (by decide +kernel)⟩
theorem lw_p94 : lw_okq (⟨"RingBarsModel", "goesOn", "(II)Z"⟩, 74) := ⟨⟨by decide +kernel, by decide +kernel⟩, List.mem_of_getElem? (i := 1077) (by decide +kernel), List.mem_of_getElem? (i := 1571) (by decide +kernel), List.mem_of_getElem? (i := 1572) (by decide +kernel)⟩
theorem lw_p95 : lw_okq (⟨"RingBarsModel", "findsFits", "(III)V"⟩, 74) := ⟨⟨by decide +kernel, by decide +kernel⟩, List.mem_of_getElem? (i := 1077) (by decide +kernel), List.mem_of_getElem? (i := 1584) (by decide +kernel), List.mem_of_getElem? (i := 1585) (by decide +kernel)⟩
def lw_privs_6 : List (MethodName × Nat) := [(⟨"RingBarsModel", "worth", "(III)I"⟩, 74), (⟨"RingBarsModel", "twoOf", "(III)I"⟩, 74), (⟨"RingBarsModel", "toneNow", "(II)I"⟩, 74), (⟨"RingBarsModel", "toneBy", "(III)I"⟩, 74), (⟨"RingBarsModel", "canPass", "(III)Z"⟩, 74), (⟨"RingBarsModel", "takesOff", "(III)V"⟩, 74), (⟨"RingBarsModel", "isLost", "(I)Z"⟩, 74), (⟨"RingBarsModel", "asksJob", "(I)V"⟩, 74), (⟨"RingBarsModel", "doesLine", "(II)V"⟩, 74), (⟨"RingBarsModel", "findsFewest", "(I)I"⟩, 74), (⟨"RingBarsModel", "findsTable", "(I)V"⟩, 74), (⟨"RingBarsModel", "does", "(II)Z"⟩, 74), (⟨"RingBarsModel", "wouldBe", "(I)I"⟩, 74), (⟨"RingBarsModel", "toneByTable", "(II)I"⟩, 74), (⟨"RingBarsModel", "goesOn", "(II)Z"⟩, 74), (⟨"RingBarsModel", "findsFits", "(III)V"⟩, 74)]
theorem lw_r6 : ∀ q ∈ lw_privs_6, lw_okq q := List.forall_mem_cons.mpr ⟨lw_p80, List.forall_mem_cons.mpr ⟨lw_p81, List.forall_mem_cons.mpr ⟨lw_p82, List.forall_mem_cons.mpr ⟨lw_p83, List.forall_mem_cons.mpr ⟨lw_p84, List.forall_mem_cons.mpr ⟨lw_p85, List.forall_mem_cons.mpr ⟨lw_p86, List.forall_mem_cons.mpr ⟨lw_p87, List.forall_mem_cons.mpr ⟨lw_p88, List.forall_mem_cons.mpr ⟨lw_p89, List.forall_mem_cons.mpr ⟨lw_p90, List.forall_mem_cons.mpr ⟨lw_p91, List.forall_mem_cons.mpr ⟨lw_p92, List.forall_mem_cons.mpr ⟨lw_p93, List.forall_mem_cons.mpr ⟨lw_p94, List.forall_mem_cons.mpr ⟨lw_p95, fun _ h => absurd h List.not_mem_nil⟩⟩⟩⟩⟩⟩⟩⟩⟩⟩⟩⟩⟩⟩⟩⟩
theorem lw_p96 : lw_okq (⟨"RingBarsModel", "fitsAll", "(II)Z"⟩, 74) := ⟨⟨by decide +kernel, by decide +kernel⟩, List.mem_of_getElem? (i := 1077) (by decide +kernel), List.mem_of_getElem? (i := 1588) (by decide +kernel), List.mem_of_getElem? (i := 1589) (by decide +kernel)⟩
theorem lw_p97 : lw_okq (⟨"RingBarsModel", "toneOf", "(III)I"⟩, 74) := ⟨⟨by decide +kernel, by decide +kernel⟩, List.mem_of_getElem? (i := 1077) (by decide +kernel), List.mem_of_getElem? (i := 1592) (by decide +kernel), List.mem_of_getElem? (i := 1593) (by decide +kernel)⟩
theorem lw_p98 : lw_okq (⟨"RingBarsModel", "nextPass", "(I)I"⟩, 74) := ⟨⟨by decide +kernel, by decide +kernel⟩, List.mem_of_getElem? (i := 1077) (by decide +kernel), List.mem_of_getElem? (i := 1596) (by decide +kernel), List.mem_of_getElem? (i := 1597) (by decide +kernel)⟩
theorem lw_p99 : lw_okq (⟨"RingBarsModel", "unlikeBy", "(II)I"⟩, 74) := ⟨⟨by decide +kernel, by decide +kernel⟩, List.mem_of_getElem? (i := 1077) (by decide +kernel), List.mem_of_getElem? (i := 1600) (by decide +kernel), List.mem_of_getElem? (i := 1601) (by decide +kernel)⟩
theorem lw_p100 : lw_okq (⟨"RingBarsModel", "sureOf", "(I)I"⟩, 74) := ⟨⟨by decide +kernel, by decide +kernel⟩, List.mem_of_getElem? (i := 1077) (by decide +kernel), List.mem_of_getElem? (i := 1604) (by decide +kernel), List.mem_of_getElem? (i := 1605) (by decide +kernel)⟩
theorem lw_p101 : lw_okq (⟨"RingBarsModel", "offOf", "(I)I"⟩, 74) := ⟨⟨by decide +kernel, by decide +kernel⟩, List.mem_of_getElem? (i := 1077) (by decide +kernel), List.mem_of_getElem? (i := 1612) (by decide +kernel), List.mem_of_getElem? (i := 1613) (by decide +kernel)⟩
theorem lw_p102 : lw_okq (⟨"RingBarsModel", "stills", "(II)I"⟩, 74) := ⟨⟨by decide +kernel, by decide +kernel⟩, List.mem_of_getElem? (i := 1077) (by decide +kernel), List.mem_of_getElem? (i := 1622) (by decide +kernel), List.mem_of_getElem? (i := 1623) (by decide +kernel)⟩
theorem lw_p103 : lw_okq (⟨"RingBarsModel", "isStill", "(III)Z"⟩, 74) := ⟨⟨by decide +kernel, by decide +kernel⟩, List.mem_of_getElem? (i := 1077) (by decide +kernel), List.mem_of_getElem? (i := 1626) (by decide +kernel), List.mem_of_getElem? (i := 1627) (by decide +kernel)⟩
theorem lw_p104 : lw_okq (⟨"RingBarsModel", "sways", "(III)Z"⟩, 74) := ⟨⟨by decide +kernel, by decide +kernel⟩, List.mem_of_getElem? (i := 1077) (by decide +kernel), List.mem_of_getElem? (i := 1630) (by decide +kernel), List.mem_of_getElem? (i := 1631) (by decide +kernel)⟩
theorem lw_p105 : lw_okq (⟨"RingBarsModel", "stillAt", "(III)I"⟩, 74) := ⟨⟨by decide +kernel, by decide +kernel⟩, List.mem_of_getElem? (i := 1077) (by decide +kernel), List.mem_of_getElem? (i := 1634) (by decide +kernel), List.mem_of_getElem? (i := 1635) (by decide +kernel)⟩
theorem lw_p106 : lw_okq (⟨"RingBarsModel", "isTrue", "(I)Z"⟩, 74) := ⟨⟨by decide +kernel, by decide +kernel⟩, List.mem_of_getElem? (i := 1077) (by decide +kernel), List.mem_of_getElem? (i := 1646) (by decide +kernel), List.mem_of_getElem? (i := 1647) (by decide +kernel)⟩
theorem lw_p107 : lw_okq (⟨"RingBarsModel", "amiss", "(I)I"⟩, 74) := ⟨⟨by decide +kernel, by decide +kernel⟩, List.mem_of_getElem? (i := 1077) (by decide +kernel), List.mem_of_getElem? (i := 1650) (by decide +kernel), List.mem_of_getElem? (i := 1651) (by decide +kernel)⟩
theorem lw_p108 : lw_okq (⟨"RingBarsModel", "isHeat", "(I)Z"⟩, 74) := ⟨⟨by decide +kernel, by decide +kernel⟩, List.mem_of_getElem? (i := 1077) (by decide +kernel), List.mem_of_getElem? (i := 1662) (by decide +kernel), List.mem_of_getElem? (i := 1663) (by decide +kernel)⟩
theorem lw_p109 : lw_okq (⟨"RingBarsModel", "isWet", "(I)Z"⟩, 74) := ⟨⟨by decide +kernel, by decide +kernel⟩, List.mem_of_getElem? (i := 1077) (by decide +kernel), List.mem_of_getElem? (i := 1666) (by decide +kernel), List.mem_of_getElem? (i := 1667) (by decide +kernel)⟩
theorem lw_p110 : lw_okq (⟨"RingBarsModel", "beatOf", "(IIII)I"⟩, 74) := ⟨⟨by decide +kernel, by decide +kernel⟩, List.mem_of_getElem? (i := 1077) (by decide +kernel), List.mem_of_getElem? (i := 1670) (by decide +kernel), List.mem_of_getElem? (i := 1671) (by decide +kernel)⟩
theorem lw_p111 : lw_okq (⟨"RingBarsModel", "sounds", "(II)I"⟩, 74) := ⟨⟨by decide +kernel, by decide +kernel⟩, List.mem_of_getElem? (i := 1077) (by decide +kernel), List.mem_of_getElem? (i := 1674) (by decide +kernel), List.mem_of_getElem? (i := 1675) (by decide +kernel)⟩
def lw_privs_7 : List (MethodName × Nat) := [(⟨"RingBarsModel", "fitsAll", "(II)Z"⟩, 74), (⟨"RingBarsModel", "toneOf", "(III)I"⟩, 74), (⟨"RingBarsModel", "nextPass", "(I)I"⟩, 74), (⟨"RingBarsModel", "unlikeBy", "(II)I"⟩, 74), (⟨"RingBarsModel", "sureOf", "(I)I"⟩, 74), (⟨"RingBarsModel", "offOf", "(I)I"⟩, 74), (⟨"RingBarsModel", "stills", "(II)I"⟩, 74), (⟨"RingBarsModel", "isStill", "(III)Z"⟩, 74), (⟨"RingBarsModel", "sways", "(III)Z"⟩, 74), (⟨"RingBarsModel", "stillAt", "(III)I"⟩, 74), (⟨"RingBarsModel", "isTrue", "(I)Z"⟩, 74), (⟨"RingBarsModel", "amiss", "(I)I"⟩, 74), (⟨"RingBarsModel", "isHeat", "(I)Z"⟩, 74), (⟨"RingBarsModel", "isWet", "(I)Z"⟩, 74), (⟨"RingBarsModel", "beatOf", "(IIII)I"⟩, 74), (⟨"RingBarsModel", "sounds", "(II)I"⟩, 74)]
theorem lw_r7 : ∀ q ∈ lw_privs_7, lw_okq q := List.forall_mem_cons.mpr ⟨lw_p96, List.forall_mem_cons.mpr ⟨lw_p97, List.forall_mem_cons.mpr ⟨lw_p98, List.forall_mem_cons.mpr ⟨lw_p99, List.forall_mem_cons.mpr ⟨lw_p100, List.forall_mem_cons.mpr ⟨lw_p101, List.forall_mem_cons.mpr ⟨lw_p102, List.forall_mem_cons.mpr ⟨lw_p103, List.forall_mem_cons.mpr ⟨lw_p104, List.forall_mem_cons.mpr ⟨lw_p105, List.forall_mem_cons.mpr ⟨lw_p106, List.forall_mem_cons.mpr ⟨lw_p107, List.forall_mem_cons.mpr ⟨lw_p108, List.forall_mem_cons.mpr ⟨lw_p109, List.forall_mem_cons.mpr ⟨lw_p110, List.forall_mem_cons.mpr ⟨lw_p111, fun _ h => absurd h List.not_mem_nil⟩⟩⟩⟩⟩⟩⟩⟩⟩⟩⟩⟩⟩⟩⟩⟩
theorem lw_p112 : lw_okq (⟨"RingBarsModel", "drifted", "(III)I"⟩, 74) := ⟨⟨by decide +kernel, by decide +kernel⟩, List.mem_of_getElem? (i := 1077) (by decide +kernel), List.mem_of_getElem? (i := 1678) (by decide +kernel), List.mem_of_getElem? (i := 1679) (by decide +kernel)⟩
theorem lw_p113 : lw_okq (⟨"RingBarsModel", "suits", "(I)I"⟩, 74) := ⟨⟨by decide +kernel, by decide +kernel⟩, List.mem_of_getElem? (i := 1077) (by decide +kernel), List.mem_of_getElem? (i := 1691) (by decide +kernel), List.mem_of_getElem? (i := 1692) (by decide +kernel)⟩
theorem lw_p114 : lw_okq (⟨"RingBarsModel", "worstBeat", "(II)I"⟩, 74) := ⟨⟨by decide +kernel, by decide +kernel⟩, List.mem_of_getElem? (i := 1077) (by decide +kernel), List.mem_of_getElem? (i := 1695) (by decide +kernel), List.mem_of_getElem? (i := 1696) (by decide +kernel)⟩
theorem lw_p115 : lw_okq (⟨"RingBarsModel", "worstOf", "(II)I"⟩, 74) := ⟨⟨by decide +kernel, by decide +kernel⟩, List.mem_of_getElem? (i := 1077) (by decide +kernel), List.mem_of_getElem? (i := 1699) (by decide +kernel), List.mem_of_getElem? (i := 1700) (by decide +kernel)⟩
theorem lw_p116 : lw_okq (⟨"RingBarsModel", "together", "(I)I"⟩, 74) := ⟨⟨by decide +kernel, by decide +kernel⟩, List.mem_of_getElem? (i := 1077) (by decide +kernel), List.mem_of_getElem? (i := 1703) (by decide +kernel), List.mem_of_getElem? (i := 1704) (by decide +kernel)⟩
theorem lw_p117 : lw_okq (⟨"RingBarsModel", "leastWaste", "(I)I"⟩, 74) := ⟨⟨by decide +kernel, by decide +kernel⟩, List.mem_of_getElem? (i := 1077) (by decide +kernel), List.mem_of_getElem? (i := 1720) (by decide +kernel), List.mem_of_getElem? (i := 1721) (by decide +kernel)⟩
theorem lw_p118 : lw_okq (⟨"RingBarsModel", "canHave", "(II)Z"⟩, 74) := ⟨⟨by decide +kernel, by decide +kernel⟩, List.mem_of_getElem? (i := 1077) (by decide +kernel), List.mem_of_getElem? (i := 1724) (by decide +kernel), List.mem_of_getElem? (i := 1725) (by decide +kernel)⟩
theorem lw_p119 : lw_okq (⟨"RingBarsModel", "kept", "(I)I"⟩, 74) := ⟨⟨by decide +kernel, by decide +kernel⟩, List.mem_of_getElem? (i := 1077) (by decide +kernel), List.mem_of_getElem? (i := 1740) (by decide +kernel), List.mem_of_getElem? (i := 1741) (by decide +kernel)⟩
theorem lw_p120 : lw_okq (⟨"RingBarsModel", "keepsBars", "()V"⟩, 74) := ⟨⟨by decide +kernel, by decide +kernel⟩, List.mem_of_getElem? (i := 1077) (by decide +kernel), List.mem_of_getElem? (i := 1744) (by decide +kernel), List.mem_of_getElem? (i := 1745) (by decide +kernel)⟩
theorem lw_p121 : lw_okq (⟨"RingBarsModel", "keepsTaps", "()V"⟩, 74) := ⟨⟨by decide +kernel, by decide +kernel⟩, List.mem_of_getElem? (i := 1077) (by decide +kernel), List.mem_of_getElem? (i := 1748) (by decide +kernel), List.mem_of_getElem? (i := 1749) (by decide +kernel)⟩
theorem lw_p122 : lw_okq (⟨"RingBarsModel", "keepsTexts", "()V"⟩, 74) := ⟨⟨by decide +kernel, by decide +kernel⟩, List.mem_of_getElem? (i := 1077) (by decide +kernel), List.mem_of_getElem? (i := 1752) (by decide +kernel), List.mem_of_getElem? (i := 1753) (by decide +kernel)⟩
theorem lw_p123 : lw_okq (⟨"RingBarsModel", "barsThat", "(Z)I"⟩, 74) := ⟨⟨by decide +kernel, by decide +kernel⟩, List.mem_of_getElem? (i := 1077) (by decide +kernel), List.mem_of_getElem? (i := 1760) (by decide +kernel), List.mem_of_getElem? (i := 1761) (by decide +kernel)⟩
def lw_privs_8 : List (MethodName × Nat) := [(⟨"RingBarsModel", "drifted", "(III)I"⟩, 74), (⟨"RingBarsModel", "suits", "(I)I"⟩, 74), (⟨"RingBarsModel", "worstBeat", "(II)I"⟩, 74), (⟨"RingBarsModel", "worstOf", "(II)I"⟩, 74), (⟨"RingBarsModel", "together", "(I)I"⟩, 74), (⟨"RingBarsModel", "leastWaste", "(I)I"⟩, 74), (⟨"RingBarsModel", "canHave", "(II)Z"⟩, 74), (⟨"RingBarsModel", "kept", "(I)I"⟩, 74), (⟨"RingBarsModel", "keepsBars", "()V"⟩, 74), (⟨"RingBarsModel", "keepsTaps", "()V"⟩, 74), (⟨"RingBarsModel", "keepsTexts", "()V"⟩, 74), (⟨"RingBarsModel", "barsThat", "(Z)I"⟩, 74)]
theorem lw_r8 : ∀ q ∈ lw_privs_8, lw_okq q := List.forall_mem_cons.mpr ⟨lw_p112, List.forall_mem_cons.mpr ⟨lw_p113, List.forall_mem_cons.mpr ⟨lw_p114, List.forall_mem_cons.mpr ⟨lw_p115, List.forall_mem_cons.mpr ⟨lw_p116, List.forall_mem_cons.mpr ⟨lw_p117, List.forall_mem_cons.mpr ⟨lw_p118, List.forall_mem_cons.mpr ⟨lw_p119, List.forall_mem_cons.mpr ⟨lw_p120, List.forall_mem_cons.mpr ⟨lw_p121, List.forall_mem_cons.mpr ⟨lw_p122, List.forall_mem_cons.mpr ⟨lw_p123, fun _ h => absurd h List.not_mem_nil⟩⟩⟩⟩⟩⟩⟩⟩⟩⟩⟩⟩
def lw_privs : List (MethodName × Nat) := lw_privs_1 ++ (lw_privs_2 ++ (lw_privs_3 ++ (lw_privs_4 ++ (lw_privs_5 ++ (lw_privs_6 ++ (lw_privs_7 ++ (lw_privs_8)))))))
def lw_tbl : List Cond := k2_sels lw_privs ++ tables_1
theorem lw_privs_ok : ∀ q ∈ lw_privs, lw_okq q := by
  show ∀ q ∈ lw_privs_1 ++ (lw_privs_2 ++ (lw_privs_3 ++ (lw_privs_4 ++ (lw_privs_5 ++ (lw_privs_6 ++ (lw_privs_7 ++ (lw_privs_8))))))), lw_okq q
  exact List.forall_mem_append.mpr ⟨lw_r1, List.forall_mem_append.mpr ⟨lw_r2, List.forall_mem_append.mpr ⟨lw_r3, List.forall_mem_append.mpr ⟨lw_r4, List.forall_mem_append.mpr ⟨lw_r5, List.forall_mem_append.mpr ⟨lw_r6, List.forall_mem_append.mpr ⟨lw_r7, lw_r8⟩⟩⟩⟩⟩⟩⟩
end
section
def RX0 : String := "RingBars$Bar"
def TX0 : u_T := fun k => match k with
  | 0 => ("RingBars$Bar", "size", "I", false)
  | 1 => ("RingBars$Bar", "thick", "[I", true)
  | 2 => ("RingBars$Bar", "grain", "[I", true)
  | 3 => ("RingBars$Bar", "heavy", "[I", true)
  | 4 => ("RingBars$Bar", "wax", "[I", true)
  | 5 => ("RingBars$Bar", "goals", "[I", true)
  | 6 => ("RingBars$Bar", "passSlice", "[I", true)
  | 7 => ("RingBars$Bar", "passDepth", "[I", true)
  | 8 => ("RingBars$Bar", "passCount", "I", false)
  | 9 => ("RingBars$Bar", "lostBy", "I", false)
  | 10 => ("RingBars$Bar", "tapTone", "[I", true)
  | 11 => ("RingBars$Bar", "tapHeard", "[I", true)
  | 12 => ("RingBars$Bar", "tapThick", "[[I", true)
  | 13 => ("RingBars$Bar", "tapWax", "[[I", true)
  | 14 => ("RingBars$Bar", "tapCount", "I", false)
  | 15 => ("RingBars$Bar", "firstHole", "I", false)
  | 16 => ("RingBars$Bar", "secondHole", "I", false)
  | _ => ("RingBars$Bar", "tubes", "[I", true)
def tyX0 : Nat → FieldType := fun k => match k with
  | 0 => .int
  | 1 => .array .int
  | 2 => .array .int
  | 3 => .array .int
  | 4 => .array .int
  | 5 => .array .int
  | 6 => .array .int
  | 7 => .array .int
  | 8 => .int
  | 9 => .int
  | 10 => .array .int
  | 11 => .array .int
  | 12 => .array (.array .int)
  | 13 => .array (.array .int)
  | 14 => .int
  | 15 => .int
  | 16 => .int
  | _ => .array .int
theorem nmX0 : ∀ a, a < 18 → ∀ b, b < 18 → a ≠ b → (TX0 a).2.1 ≠ (TX0 b).2.1 := by decide +kernel
theorem tyX0_ok : ∀ k, k < 18 → parseFieldDescriptor (TX0 k).2.2.1 = some (tyX0 k) := by decide +kernel
abbrev cX0_init : ByteArray := prog_2_method_1_code
def yX0_init : MethodName := ⟨RX0, "<init>", "()V"⟩
abbrev cX0_begin : ByteArray := prog_2_method_2_code
def yX0_begin : MethodName := ⟨RX0, "begin", "(I)V"⟩
abbrev cX0_has : ByteArray := prog_2_method_3_code
def yX0_has : MethodName := ⟨RX0, "has", "(I)Z"⟩
abbrev cX0_addTap : ByteArray := prog_2_method_4_code
def yX0_addTap : MethodName := ⟨RX0, "addTap", "(II)V"⟩
abbrev cX0_thinnedCopy : ByteArray := prog_2_method_5_code
def yX0_thinnedCopy : MethodName := ⟨RX0, "thinnedCopy", "([II)V"⟩
abbrev cX0_copyFrom : ByteArray := prog_2_method_6_code
def yX0_copyFrom : MethodName := ⟨RX0, "copyFrom", "(LRingBars$Bar;)V"⟩
def RX1 : String := "RingBars$GrainSearch"
def TX1 : u_T := fun k => match k with
  | 0 => ("RingBars$GrainSearch", "bend", "[I", true)
  | 1 => ("RingBars$GrainSearch", "mass", "[I", true)
  | 2 => ("RingBars$GrainSearch", "grains", "[I", true)
  | 3 => ("RingBars$GrainSearch", "rows", "[I", true)
  | 4 => ("RingBars$GrainSearch", "count", "I", false)
  | 5 => ("RingBars$GrainSearch", "most", "I", false)
  | 6 => ("RingBars$GrainSearch", "thinner", "[I", true)
  | _ => ("RingBars$GrainSearch", "unlike", "LRingBars$Numbers;", true)
def tyX1 : Nat → FieldType := fun k => match k with
  | 0 => .array .int
  | 1 => .array .int
  | 2 => .array .int
  | 3 => .array .int
  | 4 => .int
  | 5 => .int
  | 6 => .array .int
  | _ => .object "RingBars$Numbers"
theorem nmX1 : ∀ a, a < 8 → ∀ b, b < 8 → a ≠ b → (TX1 a).2.1 ≠ (TX1 b).2.1 := by decide +kernel
theorem tyX1_ok : ∀ k, k < 8 → parseFieldDescriptor (TX1 k).2.2.1 = some (tyX1 k) := by decide +kernel
abbrev cX1_init : ByteArray := prog_3_method_1_code
def yX1_init : MethodName := ⟨RX1, "<init>", "()V"⟩
abbrev cX1_find : ByteArray := prog_3_method_2_code
def yX1_find : MethodName := ⟨RX1, "find", "(LRingBars$Sums;LRingBars$Text;LRingBars$Bar;II)I"⟩
abbrev cX1_fill : ByteArray := prog_3_method_3_code
def yX1_fill : MethodName := ⟨RX1, "fill", "(LRingBars$Sums;LRingBars$Text;LRingBars$Bar;II[I[I)V"⟩
abbrev cX1_place : ByteArray := prog_3_method_4_code
def yX1_place : MethodName := ⟨RX1, "place", "(III)I"⟩
abbrev cX1_unfold : ByteArray := prog_3_method_5_code
def yX1_unfold : MethodName := ⟨RX1, "unfold", "(I)V"⟩
abbrev cX1_toneAt : ByteArray := prog_3_method_6_code
def yX1_toneAt : MethodName := ⟨RX1, "toneAt", "(LRingBars$Bar;I)I"⟩
abbrev cX1_isHeard : ByteArray := prog_3_method_7_code
def yX1_isHeard : MethodName := ⟨RX1, "isHeard", "(LRingBars$Bar;I)Z"⟩
abbrev cX1_sure : ByteArray := prog_3_method_8_code
def yX1_sure : MethodName := ⟨RX1, "sure", "(I)I"⟩
abbrev cX1_nextPass : ByteArray := prog_3_method_9_code
def yX1_nextPass : MethodName := ⟨RX1, "nextPass", "(LRingBars$Sums;LRingBars$Text;LRingBars$Bar;)I"⟩
abbrev cX1_countUnlike : ByteArray := prog_3_method_10_code
def yX1_countUnlike : MethodName := ⟨RX1, "countUnlike", "(LRingBars$Sums;LRingBars$Text;LRingBars$Bar;I)I"⟩
def RX2 : String := "RingBars$Numbers"
def TX2 : u_T := fun k => match k with
  | 0 => ("RingBars$Numbers", "held", "[I", true)
  | _ => ("RingBars$Numbers", "count", "I", false)
def tyX2 : Nat → FieldType := fun k => match k with
  | 0 => .array .int
  | _ => .int
theorem nmX2 : ∀ a, a < 2 → ∀ b, b < 2 → a ≠ b → (TX2 a).2.1 ≠ (TX2 b).2.1 := by decide +kernel
theorem tyX2_ok : ∀ k, k < 2 → parseFieldDescriptor (TX2 k).2.2.1 = some (tyX2 k) := by decide +kernel
abbrev cX2_init : ByteArray := prog_4_method_1_code
def yX2_init : MethodName := ⟨RX2, "<init>", "()V"⟩
abbrev cX2_clear : ByteArray := prog_4_method_2_code
def yX2_clear : MethodName := ⟨RX2, "clear", "()V"⟩
abbrev cX2_add : ByteArray := prog_4_method_3_code
def yX2_add : MethodName := ⟨RX2, "add", "(I)Z"⟩
def RX3 : String := "RingBars$PassSearch"
def TX3 : u_T := fun k => match k with
  | 0 => ("RingBars$PassSearch", "row", "[I", true)
  | 1 => ("RingBars$PassSearch", "bend", "[I", true)
  | 2 => ("RingBars$PassSearch", "mass", "[I", true)
  | 3 => ("RingBars$PassSearch", "bends", "[I", true)
  | 4 => ("RingBars$PassSearch", "masses", "[I", true)
  | 5 => ("RingBars$PassSearch", "goals", "[I", true)
  | 6 => ("RingBars$PassSearch", "taken", "[I", true)
  | 7 => ("RingBars$PassSearch", "room", "[I", true)
  | 8 => ("RingBars$PassSearch", "met", "LRingBars$Numbers;", true)
  | 9 => ("RingBars$PassSearch", "size", "I", false)
  | 10 => ("RingBars$PassSearch", "slack", "I", false)
  | _ => ("RingBars$PassSearch", "key", "I", false)
def tyX3 : Nat → FieldType := fun k => match k with
  | 0 => .array .int
  | 1 => .array .int
  | 2 => .array .int
  | 3 => .array .int
  | 4 => .array .int
  | 5 => .array .int
  | 6 => .array .int
  | 7 => .array .int
  | 8 => .object "RingBars$Numbers"
  | 9 => .int
  | 10 => .int
  | _ => .int
theorem nmX3 : ∀ a, a < 12 → ∀ b, b < 12 → a ≠ b → (TX3 a).2.1 ≠ (TX3 b).2.1 := by decide +kernel
theorem tyX3_ok : ∀ k, k < 12 → parseFieldDescriptor (TX3 k).2.2.1 = some (tyX3 k) := by decide +kernel
abbrev cX3_init : ByteArray := prog_5_method_1_code
def yX3_init : MethodName := ⟨RX3, "<init>", "()V"⟩
abbrev cX3_prepare : ByteArray := prog_5_method_2_code
def yX3_prepare : MethodName := ⟨RX3, "prepare", "(LRingBars$Sums;LRingBars$Text;LRingBars$Bar;I)V"⟩
abbrev cX3_fill : ByteArray := prog_5_method_3_code
def yX3_fill : MethodName := ⟨RX3, "fill", "(LRingBars$Sums;LRingBars$Text;II)V"⟩
abbrev cX3_place : ByteArray := prog_5_method_4_code
def yX3_place : MethodName := ⟨RX3, "place", "(III)I"⟩
abbrev cX3_find : ByteArray := prog_5_method_5_code
def yX3_find : MethodName := ⟨RX3, "find", "()I"⟩
abbrev cX3_goOn : ByteArray := prog_5_method_6_code
def yX3_goOn : MethodName := ⟨RX3, "goOn", "(II)Z"⟩
abbrev cX3_isReached : ByteArray := prog_5_method_7_code
def yX3_isReached : MethodName := ⟨RX3, "isReached", "(III)Z"⟩
abbrev cX3_move : ByteArray := prog_5_method_8_code
def yX3_move : MethodName := ⟨RX3, "move", "(II)V"⟩
abbrev cX3_isTrueNow : ByteArray := prog_5_method_9_code
def yX3_isTrueNow : MethodName := ⟨RX3, "isTrueNow", "()Z"⟩
abbrev cX3_isNearBehind : ByteArray := prog_5_method_10_code
def yX3_isNearBehind : MethodName := ⟨RX3, "isNearBehind", "(IZ)Z"⟩
abbrev cX3_isNear : ByteArray := prog_5_method_11_code
def yX3_isNear : MethodName := ⟨RX3, "isNear", "(IIIZ)Z"⟩
def RX4 : String := "RingBars$Reader"
def TX4 : u_T := fun k => match k with
  | 0 => ("RingBars$Reader", "made", "LRingBars$Text;", true)
  | 1 => ("RingBars$Reader", "fault", "I", false)
  | 2 => ("RingBars$Reader", "faultPlace", "I", false)
  | 3 => ("RingBars$Reader", "kinds", "[I", true)
  | 4 => ("RingBars$Reader", "values", "[I", true)
  | 5 => ("RingBars$Reader", "places", "[I", true)
  | 6 => ("RingBars$Reader", "tokens", "I", false)
  | 7 => ("RingBars$Reader", "at", "I", false)
  | _ => ("RingBars$Reader", "law", "Z", false)
def tyX4 : Nat → FieldType := fun k => match k with
  | 0 => .object "RingBars$Text"
  | 1 => .int
  | 2 => .int
  | 3 => .array .int
  | 4 => .array .int
  | 5 => .array .int
  | 6 => .int
  | 7 => .int
  | _ => .boolean
theorem nmX4 : ∀ a, a < 9 → ∀ b, b < 9 → a ≠ b → (TX4 a).2.1 ≠ (TX4 b).2.1 := by decide +kernel
theorem tyX4_ok : ∀ k, k < 9 → parseFieldDescriptor (TX4 k).2.2.1 = some (tyX4 k) := by decide +kernel
abbrev cX4_init : ByteArray := prog_6_method_1_code
def yX4_init : MethodName := ⟨RX4, "<init>", "()V"⟩
abbrev cX4_start : ByteArray := prog_6_method_2_code
def yX4_start : MethodName := ⟨RX4, "start", "([IIZ)V"⟩
abbrev cX4_addToken : ByteArray := prog_6_method_3_code
def yX4_addToken : MethodName := ⟨RX4, "addToken", "(III)V"⟩
abbrev cX4_isLetter : ByteArray := prog_6_method_4_code
def yX4_isLetter : MethodName := ⟨RX4, "isLetter", "(I)Z"⟩
abbrev cX4_isDigit : ByteArray := prog_6_method_5_code
def yX4_isDigit : MethodName := ⟨RX4, "isDigit", "(I)Z"⟩
abbrev cX4_isSign : ByteArray := prog_6_method_6_code
def yX4_isSign : MethodName := ⟨RX4, "isSign", "(I)Z"⟩
abbrev cX4_wordAt : ByteArray := prog_6_method_7_code
def yX4_wordAt : MethodName := ⟨RX4, "wordAt", "([III)I"⟩
abbrev cX4_isWord : ByteArray := prog_6_method_8_code
def yX4_isWord : MethodName := ⟨RX4, "isWord", "([IIII)Z"⟩
abbrev cX4_numberAt : ByteArray := prog_6_method_9_code
def yX4_numberAt : MethodName := ⟨RX4, "numberAt", "([III)I"⟩
abbrev cX4_goesOn : ByteArray := prog_6_method_10_code
def yX4_goesOn : MethodName := ⟨RX4, "goesOn", "()Z"⟩
abbrev cX4_refuse : ByteArray := prog_6_method_11_code
def yX4_refuse : MethodName := ⟨RX4, "refuse", "(I)Z"⟩
abbrev cX4_line : ByteArray := prog_6_method_12_code
def yX4_line : MethodName := ⟨RX4, "line", "()Z"⟩
abbrev cX4_lawHead : ByteArray := prog_6_method_13_code
def yX4_lawHead : MethodName := ⟨RX4, "lawHead", "(II)Z"⟩
abbrev cX4_jobHead : ByteArray := prog_6_method_14_code
def yX4_jobHead : MethodName := ⟨RX4, "jobHead", "(II)Z"⟩
abbrev cX4_number : ByteArray := prog_6_method_15_code
def yX4_number : MethodName := ⟨RX4, "number", "(II)Z"⟩
abbrev cX4_either : ByteArray := prog_6_method_16_code
def yX4_either : MethodName := ⟨RX4, "either", "(I)Z"⟩
abbrev cX4_both : ByteArray := prog_6_method_17_code
def yX4_both : MethodName := ⟨RX4, "both", "(I)Z"⟩
abbrev cX4_part : ByteArray := prog_6_method_18_code
def yX4_part : MethodName := ⟨RX4, "part", "(I)Z"⟩
abbrev cX4_opened : ByteArray := prog_6_method_19_code
def yX4_opened : MethodName := ⟨RX4, "opened", "(II)Z"⟩
abbrev cX4_sum : ByteArray := prog_6_method_20_code
def yX4_sum : MethodName := ⟨RX4, "sum", "()Z"⟩
abbrev cX4_term : ByteArray := prog_6_method_21_code
def yX4_term : MethodName := ⟨RX4, "term", "()Z"⟩
abbrev cX4_isUnit : ByteArray := prog_6_method_22_code
def yX4_isUnit : MethodName := ⟨RX4, "isUnit", "(I)Z"⟩
def RX5 : String := "RingBars$SetSearch"
def TX5 : u_T := fun k => match k with
  | 0 => ("RingBars$SetSearch", "best", "[I", true)
  | 1 => ("RingBars$SetSearch", "tried", "[I", true)
  | 2 => ("RingBars$SetSearch", "met", "[I", true)
  | 3 => ("RingBars$SetSearch", "least", "I", false)
  | _ => ("RingBars$SetSearch", "spread", "I", false)
def tyX5 : Nat → FieldType := fun k => match k with
  | 0 => .array .int
  | 1 => .array .int
  | 2 => .array .int
  | 3 => .int
  | _ => .int
theorem nmX5 : ∀ a, a < 5 → ∀ b, b < 5 → a ≠ b → (TX5 a).2.1 ≠ (TX5 b).2.1 := by decide +kernel
theorem tyX5_ok : ∀ k, k < 5 → parseFieldDescriptor (TX5 k).2.2.1 = some (tyX5 k) := by decide +kernel
abbrev cX5_init : ByteArray := prog_7_method_1_code
def yX5_init : MethodName := ⟨RX5, "<init>", "()V"⟩
abbrev cX5_find : ByteArray := prog_7_method_2_code
def yX5_find : MethodName := ⟨RX5, "find", "(LRingBars$World;I)I"⟩
abbrev cX5_goOn : ByteArray := prog_7_method_3_code
def yX5_goOn : MethodName := ⟨RX5, "goOn", "(LRingBars$World;III)V"⟩
abbrev cX5_ringsTogether : ByteArray := prog_7_method_4_code
def yX5_ringsTogether : MethodName := ⟨RX5, "ringsTogether", "(LRingBars$World;II)Z"⟩
def RX6 : String := "RingBars$Sums"
def TX6 : u_T := fun k => match k with
  | 0 => ("RingBars$Sums", "units", "[I", true)
  | _ => ("RingBars$Sums", "stack", "[I", true)
def tyX6 : Nat → FieldType := fun k => match k with
  | 0 => .array .int
  | _ => .array .int
theorem nmX6 : ∀ a, a < 2 → ∀ b, b < 2 → a ≠ b → (TX6 a).2.1 ≠ (TX6 b).2.1 := by decide +kernel
theorem tyX6_ok : ∀ k, k < 2 → parseFieldDescriptor (TX6 k).2.2.1 = some (tyX6 k) := by decide +kernel
abbrev cX6_init : ByteArray := prog_8_method_1_code
def yX6_init : MethodName := ⟨RX6, "<init>", "()V"⟩
abbrev cX6_seeSlice : ByteArray := prog_8_method_2_code
def yX6_seeSlice : MethodName := ⟨RX6, "seeSlice", "(LRingBars$Bar;IIII)V"⟩
abbrev cX6_seeAir : ByteArray := prog_8_method_3_code
def yX6_seeAir : MethodName := ⟨RX6, "seeAir", "(II)V"⟩
abbrev cX6_seeBar : ByteArray := prog_8_method_4_code
def yX6_seeBar : MethodName := ⟨RX6, "seeBar", "(IIII)V"⟩
abbrev cX6_told : ByteArray := prog_8_method_5_code
def yX6_told : MethodName := ⟨RX6, "told", "(LRingBars$Text;II)I"⟩
abbrev cX6_toneOf : ByteArray := prog_8_method_6_code
def yX6_toneOf : MethodName := ⟨RX6, "toneOf", "(LRingBars$Text;ILRingBars$Bar;[I[I[I)I"⟩
abbrev cX6_sumOf : ByteArray := prog_8_method_7_code
def yX6_sumOf : MethodName := ⟨RX6, "sumOf", "(LRingBars$Text;IILRingBars$Bar;I)I"⟩
abbrev cX6_value : ByteArray := prog_8_method_8_code
def yX6_value : MethodName := ⟨RX6, "value", "(LRingBars$Text;II)I"⟩
abbrev cX6_joined : ByteArray := prog_8_method_9_code
def yX6_joined : MethodName := ⟨RX6, "joined", "(III)I"⟩
def RX7 : String := "RingBars$Text"
def TX7 : u_T := fun k => match k with
  | 0 => ("RingBars$Text", "lines", "I", false)
  | 1 => ("RingBars$Text", "word", "[I", true)
  | 2 => ("RingBars$Text", "first", "[I", true)
  | 3 => ("RingBars$Text", "second", "[I", true)
  | 4 => ("RingBars$Text", "third", "[I", true)
  | 5 => ("RingBars$Text", "sumFrom", "[I", true)
  | 6 => ("RingBars$Text", "whenFrom", "[I", true)
  | 7 => ("RingBars$Text", "whenTo", "[I", true)
  | 8 => ("RingBars$Text", "steps", "[I", true)
  | _ => ("RingBars$Text", "stepCount", "I", false)
def tyX7 : Nat → FieldType := fun k => match k with
  | 0 => .int
  | 1 => .array .int
  | 2 => .array .int
  | 3 => .array .int
  | 4 => .array .int
  | 5 => .array .int
  | 6 => .array .int
  | 7 => .array .int
  | 8 => .array .int
  | _ => .int
theorem nmX7 : ∀ a, a < 10 → ∀ b, b < 10 → a ≠ b → (TX7 a).2.1 ≠ (TX7 b).2.1 := by decide +kernel
theorem tyX7_ok : ∀ k, k < 10 → parseFieldDescriptor (TX7 k).2.2.1 = some (tyX7 k) := by decide +kernel
abbrev cX7_init : ByteArray := prog_9_method_1_code
def yX7_init : MethodName := ⟨RX7, "<init>", "()V"⟩
abbrev cX7_clear : ByteArray := prog_9_method_2_code
def yX7_clear : MethodName := ⟨RX7, "clear", "()V"⟩
abbrev cX7_addStep : ByteArray := prog_9_method_3_code
def yX7_addStep : MethodName := ⟨RX7, "addStep", "(II)V"⟩
abbrev cX7_hasWhen : ByteArray := prog_9_method_4_code
def yX7_hasWhen : MethodName := ⟨RX7, "hasWhen", "(I)Z"⟩
abbrev cX7_copyFrom : ByteArray := prog_9_method_5_code
def yX7_copyFrom : MethodName := ⟨RX7, "copyFrom", "(LRingBars$Text;)V"⟩
def RX8 : String := "RingBars$World"
def TX8 : u_T := fun k => match k with
  | 0 => ("RingBars$World", "bars", "[LRingBars$Bar;", true)
  | 1 => ("RingBars$World", "barCount", "I", false)
  | 2 => ("RingBars$World", "laws", "[LRingBars$Text;", true)
  | 3 => ("RingBars$World", "jobs", "[LRingBars$Text;", true)
  | 4 => ("RingBars$World", "inForce", "I", false)
  | 5 => ("RingBars$World", "slack", "I", false)
  | 6 => ("RingBars$World", "fault", "I", false)
  | 7 => ("RingBars$World", "faultPlace", "I", false)
  | 8 => ("RingBars$World", "nightHeat", "[I", true)
  | 9 => ("RingBars$World", "nightWet", "[I", true)
  | 10 => ("RingBars$World", "nightCount", "I", false)
  | 11 => ("RingBars$World", "noteGoal", "[I", true)
  | 12 => ("RingBars$World", "noteLength", "[I", true)
  | 13 => ("RingBars$World", "noteCount", "I", false)
  | 14 => ("RingBars$World", "blankLength", "[I", true)
  | 15 => ("RingBars$World", "blankRing", "[I", true)
  | _ => ("RingBars$World", "blankCount", "I", false)
def tyX8 : Nat → FieldType := fun k => match k with
  | 0 => .array (.object "RingBars$Bar")
  | 1 => .int
  | 2 => .array (.object "RingBars$Text")
  | 3 => .array (.object "RingBars$Text")
  | 4 => .int
  | 5 => .int
  | 6 => .int
  | 7 => .int
  | 8 => .array .int
  | 9 => .array .int
  | 10 => .int
  | 11 => .array .int
  | 12 => .array .int
  | 13 => .int
  | 14 => .array .int
  | 15 => .array .int
  | _ => .int
theorem nmX8 : ∀ a, a < 17 → ∀ b, b < 17 → a ≠ b → (TX8 a).2.1 ≠ (TX8 b).2.1 := by decide +kernel
theorem tyX8_ok : ∀ k, k < 17 → parseFieldDescriptor (TX8 k).2.2.1 = some (tyX8 k) := by decide +kernel
abbrev cX8_init : ByteArray := prog_10_method_1_code
def yX8_init : MethodName := ⟨RX8, "<init>", "()V"⟩
abbrev cX8_law : ByteArray := prog_10_method_2_code
def yX8_law : MethodName := ⟨RX8, "law", "()LRingBars$Text;"⟩
abbrev cX8_copyFrom : ByteArray := prog_10_method_3_code
def yX8_copyFrom : MethodName := ⟨RX8, "copyFrom", "(LRingBars$World;)V"⟩
def RX9 : String := "RingBars"
def TX9 : u_T := fun k => match k with
  | 0 => ("RingBars", "now", "LRingBars$World;", true)
  | 1 => ("RingBars", "kept", "LRingBars$World;", false)
  | 2 => ("RingBars", "tape", "[I", true)
  | 3 => ("RingBars", "tapeLength", "I", false)
  | 4 => ("RingBars", "reader", "LRingBars$Reader;", true)
  | 5 => ("RingBars", "sums", "LRingBars$Sums;", true)
  | 6 => ("RingBars", "passSearch", "LRingBars$PassSearch;", true)
  | 7 => ("RingBars", "grainSearch", "LRingBars$GrainSearch;", true)
  | 8 => ("RingBars", "setSearch", "LRingBars$SetSearch;", true)
  | 9 => ("RingBars", "lowTones", "[I", true)
  | 10 => ("RingBars", "points", "[I", true)
  | _ => ("RingBars", "thinner", "[I", true)
def tyX9 : Nat → FieldType := fun k => match k with
  | 0 => .object "RingBars$World"
  | 1 => .object "RingBars$World"
  | 2 => .array .int
  | 3 => .int
  | 4 => .object "RingBars$Reader"
  | 5 => .object "RingBars$Sums"
  | 6 => .object "RingBars$PassSearch"
  | 7 => .object "RingBars$GrainSearch"
  | 8 => .object "RingBars$SetSearch"
  | 9 => .array .int
  | 10 => .array .int
  | _ => .array .int
theorem nmX9 : ∀ a, a < 12 → ∀ b, b < 12 → a ≠ b → (TX9 a).2.1 ≠ (TX9 b).2.1 := by decide +kernel
theorem tyX9_ok : ∀ k, k < 12 → parseFieldDescriptor (TX9 k).2.2.1 = some (tyX9 k) := by decide +kernel
abbrev cX9_init : ByteArray := prog_1_method_1_code
def yX9_init : MethodName := ⟨RX9, "<init>", "()V"⟩
abbrev cX9_bar : ByteArray := prog_1_method_2_code
def yX9_bar : MethodName := ⟨RX9, "bar", "(I)I"⟩
abbrev cX9_slice : ByteArray := prog_1_method_3_code
def yX9_slice : MethodName := ⟨RX9, "slice", "(IIIII)Z"⟩
abbrev cX9_wax : ByteArray := prog_1_method_4_code
def yX9_wax : MethodName := ⟨RX9, "wax", "(III)Z"⟩
abbrev cX9_of : ByteArray := prog_1_method_5_code
def yX9_of : MethodName := ⟨RX9, "of", "(III)I"⟩
abbrev cX9_feed : ByteArray := prog_1_method_6_code
def yX9_feed : MethodName := ⟨RX9, "feed", "(IIIII)I"⟩
abbrev cX9_end : ByteArray := prog_1_method_7_code
def yX9_end : MethodName := ⟨RX9, "end", "(I)Z"⟩
abbrev cX9_text : ByteArray := prog_1_method_8_code
def yX9_text : MethodName := ⟨RX9, "text", "(II)I"⟩
abbrev cX9_fault : ByteArray := prog_1_method_9_code
def yX9_fault : MethodName := ⟨RX9, "fault", "(I)I"⟩
abbrev cX9_force : ByteArray := prog_1_method_10_code
def yX9_force : MethodName := ⟨RX9, "force", "(I)I"⟩
abbrev cX9_tells : ByteArray := prog_1_method_11_code
def yX9_tells : MethodName := ⟨RX9, "tells", "(IIIII)I"⟩
abbrev cX9_tone : ByteArray := prog_1_method_12_code
def yX9_tone : MethodName := ⟨RX9, "tone", "(II)I"⟩
abbrev cX9_shave : ByteArray := prog_1_method_13_code
def yX9_shave : MethodName := ⟨RX9, "shave", "(III)I"⟩
abbrev cX9_pass : ByteArray := prog_1_method_14_code
def yX9_pass : MethodName := ⟨RX9, "pass", "(III)I"⟩
abbrev cX9_goal : ByteArray := prog_1_method_15_code
def yX9_goal : MethodName := ⟨RX9, "goal", "(III)Z"⟩
abbrev cX9_slack : ByteArray := prog_1_method_16_code
def yX9_slack : MethodName := ⟨RX9, "slack", "(I)Z"⟩
abbrev cX9_state : ByteArray := prog_1_method_17_code
def yX9_state : MethodName := ⟨RX9, "state", "(II)I"⟩
abbrev cX9_takes : ByteArray := prog_1_method_18_code
def yX9_takes : MethodName := ⟨RX9, "takes", "(III)I"⟩
abbrev cX9_job : ByteArray := prog_1_method_19_code
def yX9_job : MethodName := ⟨RX9, "job", "(II)I"⟩
abbrev cX9_fewest : ByteArray := prog_1_method_20_code
def yX9_fewest : MethodName := ⟨RX9, "fewest", "(II)I"⟩
abbrev cX9_tap : ByteArray := prog_1_method_21_code
def yX9_tap : MethodName := ⟨RX9, "tap", "(III)I"⟩
abbrev cX9_fits : ByteArray := prog_1_method_22_code
def yX9_fits : MethodName := ⟨RX9, "fits", "(IIII)I"⟩
abbrev cX9_off : ByteArray := prog_1_method_23_code
def yX9_off : MethodName := ⟨RX9, "off", "(I)I"⟩
abbrev cX9_still : ByteArray := prog_1_method_24_code
def yX9_still : MethodName := ⟨RX9, "still", "(III)I"⟩
abbrev cX9_holes : ByteArray := prog_1_method_25_code
def yX9_holes : MethodName := ⟨RX9, "holes", "(III)Z"⟩
abbrev cX9_tube : ByteArray := prog_1_method_26_code
def yX9_tube : MethodName := ⟨RX9, "tube", "(III)Z"⟩
abbrev cX9_in : ByteArray := prog_1_method_27_code
def yX9_in : MethodName := ⟨RX9, "in", "(IIII)I"⟩
abbrev cX9_night : ByteArray := prog_1_method_28_code
def yX9_night : MethodName := ⟨RX9, "night", "(II)I"⟩
abbrev cX9_nights : ByteArray := prog_1_method_29_code
def yX9_nights : MethodName := ⟨RX9, "nights", "(II)I"⟩
abbrev cX9_note : ByteArray := prog_1_method_30_code
def yX9_note : MethodName := ⟨RX9, "note", "(II)I"⟩
abbrev cX9_blank : ByteArray := prog_1_method_31_code
def yX9_blank : MethodName := ⟨RX9, "blank", "(II)I"⟩
abbrev cX9_set : ByteArray := prog_1_method_32_code
def yX9_set : MethodName := ⟨RX9, "set", "(II)I"⟩
abbrev cX9_down : ByteArray := prog_1_method_33_code
def yX9_down : MethodName := ⟨RX9, "down", "(I)I"⟩
abbrev cX9_enough : ByteArray := prog_1_method_34_code
def yX9_enough : MethodName := ⟨RX9, "enough", "(III)I"⟩
abbrev cX9_image : ByteArray := prog_1_method_35_code
def yX9_image : MethodName := ⟨RX9, "image", "(Z)Z"⟩
abbrev cX9_look : ByteArray := prog_1_method_36_code
def yX9_look : MethodName := ⟨RX9, "look", "(I)I"⟩
abbrev cX9_within : ByteArray := prog_1_method_37_code
def yX9_within : MethodName := ⟨RX9, "within", "(III)Z"⟩
abbrev cX9_isTone : ByteArray := prog_1_method_38_code
def yX9_isTone : MethodName := ⟨RX9, "isTone", "(I)Z"⟩
abbrev cX9_isAir : ByteArray := prog_1_method_39_code
def yX9_isAir : MethodName := ⟨RX9, "isAir", "(II)Z"⟩
abbrev cX9_ratio : ByteArray := prog_1_method_40_code
def yX9_ratio : MethodName := ⟨RX9, "ratio", "(II)I"⟩
abbrev cX9_barAt : ByteArray := prog_1_method_41_code
def yX9_barAt : MethodName := ⟨RX9, "barAt", "(I)LRingBars$Bar;"⟩
abbrev cX9_textAt : ByteArray := prog_1_method_42_code
def yX9_textAt : MethodName := ⟨RX9, "textAt", "(II)LRingBars$Text;"⟩
abbrev cX9_addBytes : ByteArray := prog_1_method_43_code
def yX9_addBytes : MethodName := ⟨RX9, "addBytes", "(I)V"⟩
abbrev cX9_toneNow : ByteArray := prog_1_method_44_code
def yX9_toneNow : MethodName := ⟨RX9, "toneNow", "(LRingBars$Bar;I)I"⟩
abbrev cX9_isLost : ByteArray := prog_1_method_45_code
def yX9_isLost : MethodName := ⟨RX9, "isLost", "(LRingBars$Bar;)Z"⟩
abbrev cX9_isTrue : ByteArray := prog_1_method_46_code
def yX9_isTrue : MethodName := ⟨RX9, "isTrue", "(LRingBars$Bar;)Z"⟩
abbrev cX9_countLost : ByteArray := prog_1_method_47_code
def yX9_countLost : MethodName := ⟨RX9, "countLost", "()I"⟩
abbrev cX9_countTrue : ByteArray := prog_1_method_48_code
def yX9_countTrue : MethodName := ⟨RX9, "countTrue", "()I"⟩
abbrev cX9_takeOff : ByteArray := prog_1_method_49_code
def yX9_takeOff : MethodName := ⟨RX9, "takeOff", "(LRingBars$Bar;II)I"⟩
abbrev cX9_comesTrue : ByteArray := prog_1_method_50_code
def yX9_comesTrue : MethodName := ⟨RX9, "comesTrue", "(LRingBars$Text;ILRingBars$Bar;)Z"⟩
abbrev cX9_doLine : ByteArray := prog_1_method_51_code
def yX9_doLine : MethodName := ⟨RX9, "doLine", "(LRingBars$Text;ILRingBars$Bar;)V"⟩
abbrev cX9_offOf : ByteArray := prog_1_method_52_code
def yX9_offOf : MethodName := ⟨RX9, "offOf", "(LRingBars$Text;)I"⟩
abbrev cX9_findPoints : ByteArray := prog_1_method_53_code
def yX9_findPoints : MethodName := ⟨RX9, "findPoints", "(LRingBars$Bar;I)I"⟩
abbrev cX9_amiss : ByteArray := prog_1_method_54_code
def yX9_amiss : MethodName := ⟨RX9, "amiss", "(LRingBars$Bar;)I"⟩
abbrev cX9_driftIn : ByteArray := prog_1_method_55_code
def yX9_driftIn : MethodName := ⟨RX9, "driftIn", "(II)I"⟩
abbrev cX9_drifted : ByteArray := prog_1_method_56_code
def yX9_drifted : MethodName := ⟨RX9, "drifted", "(II)I"⟩
abbrev cX9_air : ByteArray := prog_1_method_57_code
def yX9_air : MethodName := ⟨RX9, "air", "(I)I"⟩
abbrev cX9_beat : ByteArray := prog_1_method_58_code
def yX9_beat : MethodName := ⟨RX9, "beat", "(LRingBars$Bar;III)I"⟩
abbrev cX9_shortest : ByteArray := prog_1_method_59_code
def yX9_shortest : MethodName := ⟨RX9, "shortest", "(II)I"⟩
abbrev cX9_stopper : ByteArray := prog_1_method_60_code
def yX9_stopper : MethodName := ⟨RX9, "stopper", "(II)I"⟩
abbrev cX9_fillLowTones : ByteArray := prog_1_method_61_code
def yX9_fillLowTones : MethodName := ⟨RX9, "fillLowTones", "()V"⟩
abbrev cX9_beatIn : ByteArray := prog_1_method_62_code
def yX9_beatIn : MethodName := ⟨RX9, "beatIn", "(IIII)I"⟩
abbrev cX9_worst : ByteArray := prog_1_method_63_code
def yX9_worst : MethodName := ⟨RX9, "worst", "(II)I"⟩
abbrev cX9_suiting : ByteArray := prog_1_method_64_code
def yX9_suiting : MethodName := ⟨RX9, "suiting", "(I)I"⟩
abbrev cX9_apart : ByteArray := prog_1_method_65_code
def yX9_apart : MethodName := ⟨RX9, "apart", "()I"⟩
abbrev cX9_together : ByteArray := prog_1_method_66_code
def yX9_together : MethodName := ⟨RX9, "together", "(I)I"⟩
def RX10 : String := "RingBarsModel"
def TX10 : u_T := fun k => match k with
  | 0 => ("RingBarsModel", "told", "I", false)
  | 1 => ("RingBarsModel", "bars", "I", false)
  | 2 => ("RingBarsModel", "force", "I", false)
  | 3 => ("RingBarsModel", "slack", "I", false)
  | 4 => ("RingBarsModel", "slices", "[I", true)
  | 5 => ("RingBarsModel", "thick", "[I", true)
  | 6 => ("RingBarsModel", "grain", "[I", true)
  | 7 => ("RingBarsModel", "heavy", "[I", true)
  | 8 => ("RingBarsModel", "wax", "[I", true)
  | 9 => ("RingBarsModel", "goals", "[I", true)
  | 10 => ("RingBarsModel", "passes", "[I", true)
  | 11 => ("RingBarsModel", "passAt", "[I", true)
  | 12 => ("RingBarsModel", "passDepth", "[I", true)
  | 13 => ("RingBarsModel", "lostBy", "[I", true)
  | 14 => ("RingBarsModel", "holeOne", "[I", true)
  | 15 => ("RingBarsModel", "holeTwo", "[I", true)
  | 16 => ("RingBarsModel", "tubes", "[I", true)
  | 17 => ("RingBarsModel", "tape", "[I", true)
  | 18 => ("RingBarsModel", "taped", "I", false)
  | 19 => ("RingBarsModel", "spot", "I", false)
  | 20 => ("RingBarsModel", "from", "I", false)
  | 21 => ("RingBarsModel", "token", "I", false)
  | 22 => ("RingBarsModel", "value", "I", false)
  | 23 => ("RingBarsModel", "words", "[I", true)
  | 24 => ("RingBarsModel", "lineMany", "[I", true)
  | 25 => ("RingBarsModel", "lineSort", "[I", true)
  | 26 => ("RingBarsModel", "lineOne", "[I", true)
  | 27 => ("RingBarsModel", "lineTwo", "[I", true)
  | 28 => ("RingBarsModel", "lineThree", "[I", true)
  | 29 => ("RingBarsModel", "lineFrom", "[I", true)
  | 30 => ("RingBarsModel", "lineSum", "[I", true)
  | 31 => ("RingBarsModel", "lineTo", "[I", true)
  | 32 => ("RingBarsModel", "op", "[I", true)
  | 33 => ("RingBarsModel", "arg", "[I", true)
  | 34 => ("RingBarsModel", "isJob", "Z", false)
  | 35 => ("RingBarsModel", "many", "I", false)
  | 36 => ("RingBarsModel", "open", "I", false)
  | 37 => ("RingBarsModel", "pending", "[I", true)
  | 38 => ("RingBarsModel", "pendings", "I", false)
  | 39 => ("RingBarsModel", "readFault", "I", false)
  | 40 => ("RingBarsModel", "readPlace", "I", false)
  | 41 => ("RingBarsModel", "faultKind", "I", false)
  | 42 => ("RingBarsModel", "faultPlace", "I", false)
  | 43 => ("RingBarsModel", "asked", "[I", true)
  | 44 => ("RingBarsModel", "stack", "[I", true)
  | 45 => ("RingBarsModel", "row", "[I", true)
  | 46 => ("RingBarsModel", "bestRow", "[I", true)
  | 47 => ("RingBarsModel", "bendBy", "[I", true)
  | 48 => ("RingBarsModel", "massBy", "[I", true)
  | 49 => ("RingBarsModel", "offBy", "[I", true)
  | 50 => ("RingBarsModel", "taps", "[I", true)
  | 51 => ("RingBarsModel", "tapTone", "[I", true)
  | 52 => ("RingBarsModel", "tapIs", "[I", true)
  | 53 => ("RingBarsModel", "tapThick", "[I", true)
  | 54 => ("RingBarsModel", "tapWax", "[I", true)
  | 55 => ("RingBarsModel", "grainsKept", "[I", true)
  | 56 => ("RingBarsModel", "fitMany", "I", false)
  | 57 => ("RingBarsModel", "fitted", "[I", true)
  | 58 => ("RingBarsModel", "heard", "[I", true)
  | 59 => ("RingBarsModel", "nightMany", "I", false)
  | 60 => ("RingBarsModel", "nightHeat", "[I", true)
  | 61 => ("RingBarsModel", "nightWet", "[I", true)
  | 62 => ("RingBarsModel", "notes", "I", false)
  | 63 => ("RingBarsModel", "noteGoal", "[I", true)
  | 64 => ("RingBarsModel", "noteLong", "[I", true)
  | 65 => ("RingBarsModel", "blanks", "I", false)
  | 66 => ("RingBarsModel", "blankLong", "[I", true)
  | 67 => ("RingBarsModel", "blankRing", "[I", true)
  | 68 => ("RingBarsModel", "given", "[I", true)
  | 69 => ("RingBarsModel", "bestGiven", "[I", true)
  | 70 => ("RingBarsModel", "hasImage", "Z", false)
  | 71 => ("RingBarsModel", "isTaking", "Z", false)
  | 72 => ("RingBarsModel", "imageAt", "I", false)
  | _ => ("RingBarsModel", "images", "[I", true)
def tyX10 : Nat → FieldType := fun k => match k with
  | 0 => .int
  | 1 => .int
  | 2 => .int
  | 3 => .int
  | 4 => .array .int
  | 5 => .array .int
  | 6 => .array .int
  | 7 => .array .int
  | 8 => .array .int
  | 9 => .array .int
  | 10 => .array .int
  | 11 => .array .int
  | 12 => .array .int
  | 13 => .array .int
  | 14 => .array .int
  | 15 => .array .int
  | 16 => .array .int
  | 17 => .array .int
  | 18 => .int
  | 19 => .int
  | 20 => .int
  | 21 => .int
  | 22 => .int
  | 23 => .array .int
  | 24 => .array .int
  | 25 => .array .int
  | 26 => .array .int
  | 27 => .array .int
  | 28 => .array .int
  | 29 => .array .int
  | 30 => .array .int
  | 31 => .array .int
  | 32 => .array .int
  | 33 => .array .int
  | 34 => .boolean
  | 35 => .int
  | 36 => .int
  | 37 => .array .int
  | 38 => .int
  | 39 => .int
  | 40 => .int
  | 41 => .int
  | 42 => .int
  | 43 => .array .int
  | 44 => .array .int
  | 45 => .array .int
  | 46 => .array .int
  | 47 => .array .int
  | 48 => .array .int
  | 49 => .array .int
  | 50 => .array .int
  | 51 => .array .int
  | 52 => .array .int
  | 53 => .array .int
  | 54 => .array .int
  | 55 => .array .int
  | 56 => .int
  | 57 => .array .int
  | 58 => .array .int
  | 59 => .int
  | 60 => .array .int
  | 61 => .array .int
  | 62 => .int
  | 63 => .array .int
  | 64 => .array .int
  | 65 => .int
  | 66 => .array .int
  | 67 => .array .int
  | 68 => .array .int
  | 69 => .array .int
  | 70 => .boolean
  | 71 => .boolean
  | 72 => .int
  | _ => .array .int
theorem nmX10 : ∀ a, a < 74 → ∀ b, b < 74 → a ≠ b → (TX10 a).2.1 ≠ (TX10 b).2.1 := by decide +kernel
theorem tyX10_ok : ∀ k, k < 74 → parseFieldDescriptor (TX10 k).2.2.1 = some (tyX10 k) := by decide +kernel
abbrev cX10_init : ByteArray := prog_12_method_1_code
def yX10_init : MethodName := ⟨RX10, "<init>", "()V"⟩
abbrev cX10_isIn : ByteArray := prog_12_method_3_code
def yX10_isIn : MethodName := ⟨RX10, "isIn", "(III)Z"⟩
abbrev cX10_size : ByteArray := prog_12_method_4_code
def yX10_size : MethodName := ⟨RX10, "size", "(I)I"⟩
abbrev cX10_isBar : ByteArray := prog_12_method_5_code
def yX10_isBar : MethodName := ⟨RX10, "isBar", "(I)Z"⟩
abbrev cX10_isSlice : ByteArray := prog_12_method_6_code
def yX10_isSlice : MethodName := ⟨RX10, "isSlice", "(II)Z"⟩
abbrev cX10_isTone : ByteArray := prog_12_method_7_code
def yX10_isTone : MethodName := ⟨RX10, "isTone", "(I)Z"⟩
abbrev cX10_bar : ByteArray := prog_12_method_8_code
def yX10_bar : MethodName := ⟨RX10, "bar", "(I)I"⟩
abbrev cX10_slice : ByteArray := prog_12_method_9_code
def yX10_slice : MethodName := ⟨RX10, "slice", "(IIIII)Z"⟩
abbrev cX10_wax : ByteArray := prog_12_method_10_code
def yX10_wax : MethodName := ⟨RX10, "wax", "(III)Z"⟩
abbrev cX10_of : ByteArray := prog_12_method_11_code
def yX10_of : MethodName := ⟨RX10, "of", "(III)I"⟩
abbrev cX10_puts : ByteArray := prog_12_method_12_code
def yX10_puts : MethodName := ⟨RX10, "puts", "(I)V"⟩
abbrev cX10_feed : ByteArray := prog_12_method_13_code
def yX10_feed : MethodName := ⟨RX10, "feed", "(IIIII)I"⟩
abbrev cX10_end : ByteArray := prog_12_method_14_code
def yX10_end : MethodName := ⟨RX10, "end", "(I)Z"⟩
abbrev cX10_raw : ByteArray := prog_12_method_15_code
def yX10_raw : MethodName := ⟨RX10, "raw", "(I)I"⟩
abbrev cX10_isLetter : ByteArray := prog_12_method_16_code
def yX10_isLetter : MethodName := ⟨RX10, "isLetter", "(I)Z"⟩
abbrev cX10_isDigit : ByteArray := prog_12_method_17_code
def yX10_isDigit : MethodName := ⟨RX10, "isDigit", "(I)Z"⟩
abbrev cX10_isMarkSign : ByteArray := prog_12_method_18_code
def yX10_isMarkSign : MethodName := ⟨RX10, "isMarkSign", "(I)Z"⟩
abbrev cX10_wordAt : ByteArray := prog_12_method_19_code
def yX10_wordAt : MethodName := ⟨RX10, "wordAt", "(II)I"⟩
abbrev cX10_reads : ByteArray := prog_12_method_20_code
def yX10_reads : MethodName := ⟨RX10, "reads", "()V"⟩
abbrev cX10_fails : ByteArray := prog_12_method_21_code
def yX10_fails : MethodName := ⟨RX10, "fails", "(I)I"⟩
abbrev cX10_isWord : ByteArray := prog_12_method_22_code
def yX10_isWord : MethodName := ⟨RX10, "isWord", "(I)Z"⟩
abbrev cX10_isSign : ByteArray := prog_12_method_23_code
def yX10_isSign : MethodName := ⟨RX10, "isSign", "(I)Z"⟩
abbrev cX10_emits : ByteArray := prog_12_method_24_code
def yX10_emits : MethodName := ⟨RX10, "emits", "(II)V"⟩
abbrev cX10_readUnit : ByteArray := prog_12_method_25_code
def yX10_readUnit : MethodName := ⟨RX10, "readUnit", "()I"⟩
abbrev cX10_readProduct : ByteArray := prog_12_method_26_code
def yX10_readProduct : MethodName := ⟨RX10, "readProduct", "()I"⟩
abbrev cX10_readSum : ByteArray := prog_12_method_27_code
def yX10_readSum : MethodName := ⟨RX10, "readSum", "()I"⟩
abbrev cX10_readCompared : ByteArray := prog_12_method_28_code
def yX10_readCompared : MethodName := ⟨RX10, "readCompared", "()I"⟩
abbrev cX10_waits : ByteArray := prog_12_method_29_code
def yX10_waits : MethodName := ⟨RX10, "waits", "(I)V"⟩
abbrev cX10_settles : ByteArray := prog_12_method_30_code
def yX10_settles : MethodName := ⟨RX10, "settles", "(I)V"⟩
abbrev cX10_readAny : ByteArray := prog_12_method_31_code
def yX10_readAny : MethodName := ⟨RX10, "readAny", "()I"⟩
abbrev cX10_readNumber : ByteArray := prog_12_method_32_code
def yX10_readNumber : MethodName := ⟨RX10, "readNumber", "(II)I"⟩
abbrev cX10_isBegin : ByteArray := prog_12_method_33_code
def yX10_isBegin : MethodName := ⟨RX10, "isBegin", "()Z"⟩
abbrev cX10_readNumbers : ByteArray := prog_12_method_34_code
def yX10_readNumbers : MethodName := ⟨RX10, "readNumbers", "(II)I"⟩
abbrev cX10_readLine : ByteArray := prog_12_method_35_code
def yX10_readLine : MethodName := ⟨RX10, "readLine", "(I)I"⟩
abbrev cX10_readText : ByteArray := prog_12_method_36_code
def yX10_readText : MethodName := ⟨RX10, "readText", "()I"⟩
abbrev cX10_text : ByteArray := prog_12_method_37_code
def yX10_text : MethodName := ⟨RX10, "text", "(II)I"⟩
abbrev cX10_fault : ByteArray := prog_12_method_38_code
def yX10_fault : MethodName := ⟨RX10, "fault", "(I)I"⟩
abbrev cX10_twoOf : ByteArray := prog_12_method_39_code
def yX10_twoOf : MethodName := ⟨RX10, "twoOf", "(III)I"⟩
abbrev cX10_worth : ByteArray := prog_12_method_40_code
def yX10_worth : MethodName := ⟨RX10, "worth", "(III)I"⟩
abbrev cX10_isSo : ByteArray := prog_12_method_41_code
def yX10_isSo : MethodName := ⟨RX10, "isSo", "(II)Z"⟩
abbrev cX10_tellsBy : ByteArray := prog_12_method_42_code
def yX10_tellsBy : MethodName := ⟨RX10, "tellsBy", "(III)I"⟩
abbrev cX10_asks : ByteArray := prog_12_method_43_code
def yX10_asks : MethodName := ⟨RX10, "asks", "(IIIIII)V"⟩
abbrev cX10_asksSlice : ByteArray := prog_12_method_44_code
def yX10_asksSlice : MethodName := ⟨RX10, "asksSlice", "(II)V"⟩
abbrev cX10_toneBy : ByteArray := prog_12_method_45_code
def yX10_toneBy : MethodName := ⟨RX10, "toneBy", "(III)I"⟩
abbrev cX10_toneNow : ByteArray := prog_12_method_46_code
def yX10_toneNow : MethodName := ⟨RX10, "toneNow", "(II)I"⟩
abbrev cX10_isLaw : ByteArray := prog_12_method_47_code
def yX10_isLaw : MethodName := ⟨RX10, "isLaw", "(I)Z"⟩
abbrev cX10_force : ByteArray := prog_12_method_48_code
def yX10_force : MethodName := ⟨RX10, "force", "(I)I"⟩
abbrev cX10_tells : ByteArray := prog_12_method_49_code
def yX10_tells : MethodName := ⟨RX10, "tells", "(IIIII)I"⟩
abbrev cX10_tone : ByteArray := prog_12_method_50_code
def yX10_tone : MethodName := ⟨RX10, "tone", "(II)I"⟩
abbrev cX10_isLost : ByteArray := prog_12_method_51_code
def yX10_isLost : MethodName := ⟨RX10, "isLost", "(I)Z"⟩
abbrev cX10_isTrue : ByteArray := prog_12_method_52_code
def yX10_isTrue : MethodName := ⟨RX10, "isTrue", "(I)Z"⟩
abbrev cX10_canPass : ByteArray := prog_12_method_53_code
def yX10_canPass : MethodName := ⟨RX10, "canPass", "(III)Z"⟩
abbrev cX10_takesOff : ByteArray := prog_12_method_54_code
def yX10_takesOff : MethodName := ⟨RX10, "takesOff", "(III)V"⟩
abbrev cX10_shave : ByteArray := prog_12_method_55_code
def yX10_shave : MethodName := ⟨RX10, "shave", "(III)I"⟩
abbrev cX10_pass : ByteArray := prog_12_method_56_code
def yX10_pass : MethodName := ⟨RX10, "pass", "(III)I"⟩
abbrev cX10_goal : ByteArray := prog_12_method_57_code
def yX10_goal : MethodName := ⟨RX10, "goal", "(III)Z"⟩
abbrev cX10_slack : ByteArray := prog_12_method_58_code
def yX10_slack : MethodName := ⟨RX10, "slack", "(I)Z"⟩
abbrev cX10_takes : ByteArray := prog_12_method_59_code
def yX10_takes : MethodName := ⟨RX10, "takes", "(III)I"⟩
abbrev cX10_asksJob : ByteArray := prog_12_method_60_code
def yX10_asksJob : MethodName := ⟨RX10, "asksJob", "(I)V"⟩
abbrev cX10_doesLine : ByteArray := prog_12_method_61_code
def yX10_doesLine : MethodName := ⟨RX10, "doesLine", "(II)V"⟩
abbrev cX10_job : ByteArray := prog_12_method_62_code
def yX10_job : MethodName := ⟨RX10, "job", "(II)I"⟩
abbrev cX10_findsTable : ByteArray := prog_12_method_63_code
def yX10_findsTable : MethodName := ⟨RX10, "findsTable", "(I)V"⟩
abbrev cX10_toneByTable : ByteArray := prog_12_method_64_code
def yX10_toneByTable : MethodName := ⟨RX10, "toneByTable", "(II)I"⟩
abbrev cX10_wouldBe : ByteArray := prog_12_method_65_code
def yX10_wouldBe : MethodName := ⟨RX10, "wouldBe", "(I)I"⟩
abbrev cX10_does : ByteArray := prog_12_method_66_code
def yX10_does : MethodName := ⟨RX10, "does", "(II)Z"⟩
abbrev cX10_goesOn : ByteArray := prog_12_method_67_code
def yX10_goesOn : MethodName := ⟨RX10, "goesOn", "(II)Z"⟩
abbrev cX10_findsFewest : ByteArray := prog_12_method_68_code
def yX10_findsFewest : MethodName := ⟨RX10, "findsFewest", "(I)I"⟩
abbrev cX10_fewest : ByteArray := prog_12_method_69_code
def yX10_fewest : MethodName := ⟨RX10, "fewest", "(II)I"⟩
abbrev cX10_tap : ByteArray := prog_12_method_70_code
def yX10_tap : MethodName := ⟨RX10, "tap", "(III)I"⟩
abbrev cX10_toneOf : ByteArray := prog_12_method_71_code
def yX10_toneOf : MethodName := ⟨RX10, "toneOf", "(III)I"⟩
abbrev cX10_fitsAll : ByteArray := prog_12_method_72_code
def yX10_fitsAll : MethodName := ⟨RX10, "fitsAll", "(II)Z"⟩
abbrev cX10_findsFits : ByteArray := prog_12_method_73_code
def yX10_findsFits : MethodName := ⟨RX10, "findsFits", "(III)V"⟩
abbrev cX10_unlikeBy : ByteArray := prog_12_method_74_code
def yX10_unlikeBy : MethodName := ⟨RX10, "unlikeBy", "(II)I"⟩
abbrev cX10_nextPass : ByteArray := prog_12_method_75_code
def yX10_nextPass : MethodName := ⟨RX10, "nextPass", "(I)I"⟩
abbrev cX10_sureOf : ByteArray := prog_12_method_76_code
def yX10_sureOf : MethodName := ⟨RX10, "sureOf", "(I)I"⟩
abbrev cX10_fits : ByteArray := prog_12_method_77_code
def yX10_fits : MethodName := ⟨RX10, "fits", "(IIII)I"⟩
abbrev cX10_offOf : ByteArray := prog_12_method_78_code
def yX10_offOf : MethodName := ⟨RX10, "offOf", "(I)I"⟩
abbrev cX10_off : ByteArray := prog_12_method_79_code
def yX10_off : MethodName := ⟨RX10, "off", "(I)I"⟩
abbrev cX10_sways : ByteArray := prog_12_method_80_code
def yX10_sways : MethodName := ⟨RX10, "sways", "(III)Z"⟩
abbrev cX10_isStill : ByteArray := prog_12_method_81_code
def yX10_isStill : MethodName := ⟨RX10, "isStill", "(III)Z"⟩
abbrev cX10_stillAt : ByteArray := prog_12_method_82_code
def yX10_stillAt : MethodName := ⟨RX10, "stillAt", "(III)I"⟩
abbrev cX10_stills : ByteArray := prog_12_method_83_code
def yX10_stills : MethodName := ⟨RX10, "stills", "(II)I"⟩
abbrev cX10_still : ByteArray := prog_12_method_84_code
def yX10_still : MethodName := ⟨RX10, "still", "(III)I"⟩
abbrev cX10_holes : ByteArray := prog_12_method_85_code
def yX10_holes : MethodName := ⟨RX10, "holes", "(III)Z"⟩
abbrev cX10_amiss : ByteArray := prog_12_method_86_code
def yX10_amiss : MethodName := ⟨RX10, "amiss", "(I)I"⟩
abbrev cX10_state : ByteArray := prog_12_method_87_code
def yX10_state : MethodName := ⟨RX10, "state", "(II)I"⟩
abbrev cX10_isHeat : ByteArray := prog_12_method_88_code
def yX10_isHeat : MethodName := ⟨RX10, "isHeat", "(I)Z"⟩
abbrev cX10_isWet : ByteArray := prog_12_method_89_code
def yX10_isWet : MethodName := ⟨RX10, "isWet", "(I)Z"⟩
abbrev cX10_drifted : ByteArray := prog_12_method_90_code
def yX10_drifted : MethodName := ⟨RX10, "drifted", "(III)I"⟩
abbrev cX10_sounds : ByteArray := prog_12_method_91_code
def yX10_sounds : MethodName := ⟨RX10, "sounds", "(II)I"⟩
abbrev cX10_beatOf : ByteArray := prog_12_method_92_code
def yX10_beatOf : MethodName := ⟨RX10, "beatOf", "(IIII)I"⟩
abbrev cX10_tube : ByteArray := prog_12_method_93_code
def yX10_tube : MethodName := ⟨RX10, "tube", "(III)Z"⟩
abbrev cX10_in : ByteArray := prog_12_method_94_code
def yX10_in : MethodName := ⟨RX10, "in", "(IIII)I"⟩
abbrev cX10_night : ByteArray := prog_12_method_95_code
def yX10_night : MethodName := ⟨RX10, "night", "(II)I"⟩
abbrev cX10_worstOf : ByteArray := prog_12_method_96_code
def yX10_worstOf : MethodName := ⟨RX10, "worstOf", "(II)I"⟩
abbrev cX10_worstBeat : ByteArray := prog_12_method_97_code
def yX10_worstBeat : MethodName := ⟨RX10, "worstBeat", "(II)I"⟩
abbrev cX10_suits : ByteArray := prog_12_method_98_code
def yX10_suits : MethodName := ⟨RX10, "suits", "(I)I"⟩
abbrev cX10_together : ByteArray := prog_12_method_99_code
def yX10_together : MethodName := ⟨RX10, "together", "(I)I"⟩
abbrev cX10_nights : ByteArray := prog_12_method_100_code
def yX10_nights : MethodName := ⟨RX10, "nights", "(II)I"⟩
abbrev cX10_note : ByteArray := prog_12_method_101_code
def yX10_note : MethodName := ⟨RX10, "note", "(II)I"⟩
abbrev cX10_blank : ByteArray := prog_12_method_102_code
def yX10_blank : MethodName := ⟨RX10, "blank", "(II)I"⟩
abbrev cX10_canHave : ByteArray := prog_12_method_103_code
def yX10_canHave : MethodName := ⟨RX10, "canHave", "(II)Z"⟩
abbrev cX10_leastWaste : ByteArray := prog_12_method_104_code
def yX10_leastWaste : MethodName := ⟨RX10, "leastWaste", "(I)I"⟩
abbrev cX10_set : ByteArray := prog_12_method_105_code
def yX10_set : MethodName := ⟨RX10, "set", "(II)I"⟩
abbrev cX10_down : ByteArray := prog_12_method_106_code
def yX10_down : MethodName := ⟨RX10, "down", "(I)I"⟩
abbrev cX10_enough : ByteArray := prog_12_method_107_code
def yX10_enough : MethodName := ⟨RX10, "enough", "(III)I"⟩
abbrev cX10_kept : ByteArray := prog_12_method_108_code
def yX10_kept : MethodName := ⟨RX10, "kept", "(I)I"⟩
abbrev cX10_keepsBars : ByteArray := prog_12_method_109_code
def yX10_keepsBars : MethodName := ⟨RX10, "keepsBars", "()V"⟩
abbrev cX10_keepsTaps : ByteArray := prog_12_method_110_code
def yX10_keepsTaps : MethodName := ⟨RX10, "keepsTaps", "()V"⟩
abbrev cX10_keepsTexts : ByteArray := prog_12_method_111_code
def yX10_keepsTexts : MethodName := ⟨RX10, "keepsTexts", "()V"⟩
abbrev cX10_image : ByteArray := prog_12_method_112_code
def yX10_image : MethodName := ⟨RX10, "image", "(Z)Z"⟩
abbrev cX10_barsThat : ByteArray := prog_12_method_113_code
def yX10_barsThat : MethodName := ⟨RX10, "barsThat", "(Z)I"⟩
abbrev cX10_look : ByteArray := prog_12_method_114_code
def yX10_look : MethodName := ⟨RX10, "look", "(I)I"⟩
def RJx145de : String := "java/io/Serializable"
def RJx9f9b0 : String := "java/lang/CharSequence"
def RJxb160c : String := "java/lang/Comparable"
def RJ9 : String := "java/lang/Math"
abbrev cJ9_abs_0f7a4 : ByteArray := prog_13_method_59_code
def yJ9_abs_0f7a4 : MethodName := ⟨RJ9, "abs", "(I)I"⟩
abbrev cJ9_abs_067f4 : ByteArray := prog_13_method_61_code
def yJ9_abs_067f4 : MethodName := ⟨RJ9, "abs", "(J)J"⟩
abbrev cJ9_max_7cf53 : ByteArray := prog_13_method_65_code
def yJ9_max_7cf53 : MethodName := ⟨RJ9, "max", "(II)I"⟩
abbrev cJ9_max_f86c9 : ByteArray := prog_13_method_66_code
def yJ9_max_f86c9 : MethodName := ⟨RJ9, "max", "(JJ)J"⟩
abbrev cJ9_min_7cf53 : ByteArray := prog_13_method_69_code
def yJ9_min_7cf53 : MethodName := ⟨RJ9, "min", "(II)I"⟩
abbrev cJ9_min_f86c9 : ByteArray := prog_13_method_70_code
def yJ9_min_f86c9 : MethodName := ⟨RJ9, "min", "(JJ)J"⟩
def RJ0 : String := "java/lang/String"
abbrev cJ0_charAt_5068e : ByteArray := prog_14_method_56_code
def yJ0_charAt_5068e : MethodName := ⟨RJ0, "charAt", "(I)C"⟩
abbrev cJ0_isLatin1_aae02 : ByteArray := prog_14_method_154_code
def yJ0_isLatin1_aae02 : MethodName := ⟨RJ0, "isLatin1", "()Z"⟩
abbrev cJ0_checkIndex_df160 : ByteArray := prog_14_method_155_code
def yJ0_checkIndex_df160 : MethodName := ⟨RJ0, "checkIndex", "(II)V"⟩
def RJ1 : String := "java/lang/StringLatin1"
abbrev cJ1_charAt_3b067 : ByteArray := prog_15_method_2_code
def yJ1_charAt_3b067 : MethodName := ⟨RJ1, "charAt", "([BI)C"⟩
def RJ2 : String := "java/lang/StringUTF16"
abbrev cJ2_getChar_3b067 : ByteArray := prog_16_method_5_code
def yJ2_getChar_3b067 : MethodName := ⟨RJ2, "getChar", "([BI)C"⟩
abbrev cJ2_length_9d52b : ByteArray := prog_16_method_6_code
def yJ2_length_9d52b : MethodName := ⟨RJ2, "length", "([B)I"⟩
abbrev cJ2_charAt_3b067 : ByteArray := prog_16_method_83_code
def yJ2_charAt_3b067 : MethodName := ⟨RJ2, "charAt", "([BI)C"⟩
abbrev cJ2_checkIndex_2214a : ByteArray := prog_16_method_91_code
def yJ2_checkIndex_2214a : MethodName := ⟨RJ2, "checkIndex", "(I[B)V"⟩
def RJ10 : String := "java/lang/System"
def RJxfd54e : String := "java/lang/constant/Constable"
def RJx3cf43 : String := "java/lang/constant/ConstantDesc"
def RJ7 : String := "java/util/Arrays"
abbrev cJ7_fill_53178 : ByteArray := prog_18_method_103_code
def yJ7_fill_53178 : MethodName := ⟨RJ7, "fill", "([II)V"⟩
def RJ3 : String := "jdk/internal/util/Preconditions"
abbrev cJ3_checkIndex_8e157 : ByteArray := prog_19_method_11_code
def yJ3_checkIndex_8e157 : MethodName := ⟨RJ3, "checkIndex", "(IILjava/util/function/BiFunction;)I"⟩
def RL : String := "RingBarsLaw"
abbrev cL_law : ByteArray := code
def yL_law : MethodName := ⟨RL, "law", "([I)Z"⟩
abbrev vwCl : List vw_C := [(RX0, TX0, 18), (RX1, TX1, 8), (RX2, TX2, 2), (RX3, TX3, 12), (RX4, TX4, 9), (RX5, TX5, 5), (RX6, TX6, 2), (RX7, TX7, 10), (RX8, TX8, 17), (RX9, TX9, 12), (RX10, TX10, 74)]
end
section
abbrev nwl : List Cond := [.methodLinkNest RX8 52 yX0_init "RingBars", .methodLinkNest RX8 53 yX7_init "RingBars", .methodLinkNest RX9 22 yX4_init "RingBars", .methodLinkNest RX4 11 yX7_init "RingBars", .methodLinkNest RX9 29 yX6_init "RingBars", .methodLinkNest RX9 36 yX3_init "RingBars", .methodLinkNest RX3 38 yX2_init "RingBars", .methodLinkNest RX9 43 yX1_init "RingBars", .methodLinkNest RX1 29 yX2_init "RingBars", .methodLinkNest RX9 50 yX5_init "RingBars", .methodLinkNest RX6 82 yX9_ratio "RingBars", .methodLinkNest RX3 121 yX9_ratio "RingBars", .methodLinkNest RX1 94 yX9_ratio "RingBars"]
theorem nwl_form : ∀ w ∈ nwl, ∃ (a : String) (i : Nat) (x : MethodName) (h : String), w = .methodLinkNest a i x h := by
  intro w hw
  simp only [nwl, List.mem_cons, List.not_mem_nil, or_false] at hw
  rcases hw with rfl | rfl | rfl | rfl | rfl | rfl | rfl | rfl | rfl | rfl | rfl | rfl | rfl <;> exact ⟨_, _, _, _, rfl⟩
theorem wN_X8_52 : Cond.methodLinkNest RX8 52 yX0_init "RingBars" ∈ nwl := List.mem_of_getElem? (i := 0) rfl
theorem wN_X8_53 : Cond.methodLinkNest RX8 53 yX7_init "RingBars" ∈ nwl := List.mem_of_getElem? (i := 1) rfl
theorem wN_X9_22 : Cond.methodLinkNest RX9 22 yX4_init "RingBars" ∈ nwl := List.mem_of_getElem? (i := 2) rfl
theorem wN_X4_11 : Cond.methodLinkNest RX4 11 yX7_init "RingBars" ∈ nwl := List.mem_of_getElem? (i := 3) rfl
theorem wN_X9_29 : Cond.methodLinkNest RX9 29 yX6_init "RingBars" ∈ nwl := List.mem_of_getElem? (i := 4) rfl
theorem wN_X9_36 : Cond.methodLinkNest RX9 36 yX3_init "RingBars" ∈ nwl := List.mem_of_getElem? (i := 5) rfl
theorem wN_X3_38 : Cond.methodLinkNest RX3 38 yX2_init "RingBars" ∈ nwl := List.mem_of_getElem? (i := 6) rfl
theorem wN_X9_43 : Cond.methodLinkNest RX9 43 yX1_init "RingBars" ∈ nwl := List.mem_of_getElem? (i := 7) rfl
theorem wN_X1_29 : Cond.methodLinkNest RX1 29 yX2_init "RingBars" ∈ nwl := List.mem_of_getElem? (i := 8) rfl
theorem wN_X9_50 : Cond.methodLinkNest RX9 50 yX5_init "RingBars" ∈ nwl := List.mem_of_getElem? (i := 9) rfl
theorem wN_X6_82 : Cond.methodLinkNest RX6 82 yX9_ratio "RingBars" ∈ nwl := List.mem_of_getElem? (i := 10) rfl
theorem wN_X3_121 : Cond.methodLinkNest RX3 121 yX9_ratio "RingBars" ∈ nwl := List.mem_of_getElem? (i := 11) rfl
theorem wN_X1_94 : Cond.methodLinkNest RX1 94 yX9_ratio "RingBars" ∈ nwl := List.mem_of_getElem? (i := 12) rfl
/-- the regions, by their codes -/
def rgT : List ((Nat × List (Nat × Int × Int)) ⊕ (Nat × Nat × (Nat × Int × Int))) := [
  .inl (8, [(2, 25, 0), (0, 0, 10), (2, 26, 0), (2, 27, 0), (0, 0, 1), (0, (-2147483648), 2147483647), (0, (-2147483648), 2147483647), (0, (-2147483648), 2147483647), (2, 28, 0), (2, 29, 0), (0, 0, 20), (2, 30, 0), (2, 31, 0), (0, 0, 8), (2, 32, 0), (2, 33, 0), (0, 0, 8)]),
  .inl (0, [(0, 0, 16), (2, 2, 0), (2, 3, 0), (2, 4, 0), (2, 5, 0), (2, 6, 0), (2, 7, 0), (2, 8, 0), (0, 0, 200), (0, (-2147483648), 2147483647), (2, 9, 0), (2, 10, 0), (2, 11, 0), (2, 13, 0), (0, 0, 12), (0, (-2147483648), 2147483647), (0, (-2147483648), 2147483647), (2, 15, 0)]),
  .inr (0, 16, (0, (-2147483648), 2147483647)),
  .inr (0, 16, (0, (-2147483648), 2147483647)),
  .inr (0, 16, (0, (-2147483648), 2147483647)),
  .inr (0, 16, (0, (-2147483648), 2147483647)),
  .inr (0, 3, (0, (-2147483648), 2147483647)),
  .inr (0, 200, (0, (-2147483648), 2147483647)),
  .inr (0, 200, (0, (-2147483648), 2147483647)),
  .inr (0, 12, (0, (-2147483648), 2147483647)),
  .inr (0, 12, (0, (-2147483648), 2147483647)),
  .inr (3, 12, (2, 12, 0)),
  .inr (0, 16, (0, (-2147483648), 2147483647)),
  .inr (3, 12, (2, 14, 0)),
  .inr (0, 16, (0, (-2147483648), 2147483647)),
  .inr (0, 2, (0, (-2147483648), 2147483647)),
  .inl (7, [(0, 0, 16), (2, 17, 0), (2, 18, 0), (2, 19, 0), (2, 20, 0), (2, 21, 0), (2, 22, 0), (2, 23, 0), (2, 24, 0), (0, 0, 500)]),
  .inr (0, 16, (0, (-2147483648), 2147483647)),
  .inr (0, 16, (0, (-2147483648), 2147483647)),
  .inr (0, 16, (0, (-2147483648), 2147483647)),
  .inr (0, 16, (0, (-2147483648), 2147483647)),
  .inr (0, 16, (0, (-2147483648), 2147483647)),
  .inr (0, 16, (0, (-2147483648), 2147483647)),
  .inr (0, 16, (0, (-2147483648), 2147483647)),
  .inr (0, 500, (0, (-2147483648), 2147483647)),
  .inr (1, 10, (2, 1, 0)),
  .inr (2, 2, (2, 16, 0)),
  .inr (2, 4, (2, 16, 0)),
  .inr (0, 20, (0, (-2147483648), 2147483647)),
  .inr (0, 20, (0, (-2147483648), 2147483647)),
  .inr (0, 8, (0, (-2147483648), 2147483647)),
  .inr (0, 8, (0, (-2147483648), 2147483647)),
  .inr (0, 8, (0, (-2147483648), 2147483647)),
  .inr (0, 8, (0, (-2147483648), 2147483647)),
  .inl (8, [(2, 59, 0), (0, 0, 10), (2, 60, 0), (2, 61, 0), (0, 0, 1), (0, (-2147483648), 2147483647), (0, (-2147483648), 2147483647), (0, (-2147483648), 2147483647), (2, 62, 0), (2, 63, 0), (0, 0, 20), (2, 64, 0), (2, 65, 0), (0, 0, 8), (2, 66, 0), (2, 67, 0), (0, 0, 8)]),
  .inl (0, [(0, 0, 16), (2, 36, 0), (2, 37, 0), (2, 38, 0), (2, 39, 0), (2, 40, 0), (2, 41, 0), (2, 42, 0), (0, 0, 200), (0, (-2147483648), 2147483647), (2, 43, 0), (2, 44, 0), (2, 45, 0), (2, 47, 0), (0, 0, 12), (0, (-2147483648), 2147483647), (0, (-2147483648), 2147483647), (2, 49, 0)]),
  .inr (0, 16, (0, (-2147483648), 2147483647)),
  .inr (0, 16, (0, (-2147483648), 2147483647)),
  .inr (0, 16, (0, (-2147483648), 2147483647)),
  .inr (0, 16, (0, (-2147483648), 2147483647)),
  .inr (0, 3, (0, (-2147483648), 2147483647)),
  .inr (0, 200, (0, (-2147483648), 2147483647)),
  .inr (0, 200, (0, (-2147483648), 2147483647)),
  .inr (0, 12, (0, (-2147483648), 2147483647)),
  .inr (0, 12, (0, (-2147483648), 2147483647)),
  .inr (3, 12, (2, 46, 0)),
  .inr (0, 16, (0, (-2147483648), 2147483647)),
  .inr (3, 12, (2, 48, 0)),
  .inr (0, 16, (0, (-2147483648), 2147483647)),
  .inr (0, 2, (0, (-2147483648), 2147483647)),
  .inl (7, [(0, 0, 16), (2, 51, 0), (2, 52, 0), (2, 53, 0), (2, 54, 0), (2, 55, 0), (2, 56, 0), (2, 57, 0), (2, 58, 0), (0, 0, 500)]),
  .inr (0, 16, (0, (-2147483648), 2147483647)),
  .inr (0, 16, (0, (-2147483648), 2147483647)),
  .inr (0, 16, (0, (-2147483648), 2147483647)),
  .inr (0, 16, (0, (-2147483648), 2147483647)),
  .inr (0, 16, (0, (-2147483648), 2147483647)),
  .inr (0, 16, (0, (-2147483648), 2147483647)),
  .inr (0, 16, (0, (-2147483648), 2147483647)),
  .inr (0, 500, (0, (-2147483648), 2147483647)),
  .inr (1, 10, (2, 35, 0)),
  .inr (2, 2, (2, 50, 0)),
  .inr (2, 4, (2, 50, 0)),
  .inr (0, 20, (0, (-2147483648), 2147483647)),
  .inr (0, 20, (0, (-2147483648), 2147483647)),
  .inr (0, 8, (0, (-2147483648), 2147483647)),
  .inr (0, 8, (0, (-2147483648), 2147483647)),
  .inr (0, 8, (0, (-2147483648), 2147483647)),
  .inr (0, 8, (0, (-2147483648), 2147483647)),
  .inl (9, [(2, 0, 0), (3, 34, 0), (2, 108, 0), (0, 0, 500), (2, 78, 0), (2, 82, 0), (2, 89, 0), (2, 98, 0), (2, 104, 0), (2, 109, 0), (2, 110, 0), (2, 111, 0)]),
  .inl (7, [(0, 0, 16), (2, 70, 0), (2, 71, 0), (2, 72, 0), (2, 73, 0), (2, 74, 0), (2, 75, 0), (2, 76, 0), (2, 77, 0), (0, 0, 500)]),
  .inr (0, 16, (0, (-2147483648), 2147483647)),
  .inr (0, 16, (0, (-2147483648), 2147483647)),
  .inr (0, 16, (0, (-2147483648), 2147483647)),
  .inr (0, 16, (0, (-2147483648), 2147483647)),
  .inr (0, 16, (0, (-2147483648), 2147483647)),
  .inr (0, 16, (0, (-2147483648), 2147483647)),
  .inr (0, 16, (0, (-2147483648), 2147483647)),
  .inr (0, 500, (0, (-2147483648), 2147483647)),
  .inl (4, [(2, 69, 0), (0, (-2147483648), 2147483647), (0, (-2147483648), 2147483647), (2, 79, 0), (2, 80, 0), (2, 81, 0), (0, 0, 501), (0, 0, 500), (0, 0, 1)]),
  .inr (0, 501, (0, (-2147483648), 2147483647)),
  .inr (0, 501, (0, (-2147483648), 2147483647)),
  .inr (0, 501, (0, (-2147483648), 2147483647)),
  .inl (6, [(2, 83, 0), (2, 84, 0)]),
  .inr (0, 24, (0, (-2147483648), 2147483647)),
  .inr (0, 40, (0, (-2147483648), 2147483647)),
  .inl (2, [(2, 86, 0), (0, (-2147483648), 2147483647)]),
  .inr (0, 2048, (0, (-2147483648), 2147483647)),
  .inl (2, [(2, 88, 0), (0, (-2147483648), 2147483647)]),
  .inr (0, 2048, (0, (-2147483648), 2147483647)),
  .inl (3, [(2, 90, 0), (2, 91, 0), (2, 92, 0), (2, 93, 0), (2, 94, 0), (2, 95, 0), (2, 96, 0), (2, 97, 0), (2, 85, 0), (0, 0, 8), (0, (-2147483648), 2147483647), (0, (-2147483648), 2147483647)]),
  .inr (0, 5, (0, (-2147483648), 2147483647)),
  .inr (0, 144, (0, (-2147483648), 2147483647)),
  .inr (0, 144, (0, (-2147483648), 2147483647)),
  .inr (0, 3, (0, (-2147483648), 2147483647)),
  .inr (0, 3, (0, (-2147483648), 2147483647)),
  .inr (0, 3, (0, (-2147483648), 2147483647)),
  .inr (0, 8, (0, (-2147483648), 2147483647)),
  .inr (0, 8, (0, (-2147483648), 5)),
  .inl (1, [(2, 99, 0), (2, 100, 0), (2, 101, 0), (2, 102, 0), (0, 0, 1024), (0, 0, 4), (2, 103, 0), (2, 87, 0)]),
  .inr (0, 240, (0, (-2147483648), 2147483647)),
  .inr (0, 240, (0, (-2147483648), 2147483647)),
  .inr (0, 5, (0, 0, 3)),
  .inr (0, 1024, (0, 0, 1023)),
  .inr (0, 16, (0, (-2147483648), 2147483647)),
  .inl (5, [(2, 105, 0), (2, 106, 0), (2, 107, 0), (0, (-2147483648), 2147483647), (0, (-2147483648), 2147483647)]),
  .inr (0, 8, (0, (-2147483648), 2147483647)),
  .inr (0, 8, (0, (-2147483648), 2147483647)),
  .inr (0, 256, (0, (-2147483648), 2147483647)),
  .inr (0, 500, (0, (-2147483648), 2147483647)),
  .inr (0, 10, (0, (-2147483648), 2147483647)),
  .inr (0, 16, (0, (-2147483648), 2147483647)),
  .inr (0, 16, (0, (-2147483648), 2147483647)),
  .inl (10, [(0, (-2147483648), 2147483647), (0, 0, 10), (0, 0, 1), (0, (-2147483648), 2147483647), (2, 113, 0), (2, 114, 0), (2, 115, 0), (2, 116, 0), (2, 117, 0), (2, 118, 0), (2, 119, 0), (2, 120, 0), (2, 121, 0), (2, 122, 0), (2, 123, 0), (2, 124, 0), (2, 125, 0), (2, 126, 0), (0, 0, 500), (0, (-2147483648), 2147483647), (0, (-2147483648), 2147483647), (0, (-2147483648), 2147483647), (0, (-2147483648), 2147483647), (2, 127, 0), (2, 128, 0), (2, 129, 0), (2, 130, 0), (2, 131, 0), (2, 132, 0), (2, 133, 0), (2, 134, 0), (2, 135, 0), (2, 136, 0), (2, 137, 0), (0, 0, 1), (0, (-2147483648), 2147483647), (0, (-2147483648), 2147483647), (2, 138, 0), (0, (-2147483648), 2147483647), (0, (-2147483648), 2147483647), (0, (-2147483648), 2147483647), (0, (-2147483648), 2147483647), (0, (-2147483648), 2147483647), (2, 139, 0), (2, 140, 0), (2, 141, 0), (2, 142, 0), (2, 143, 0), (2, 144, 0), (2, 145, 0), (2, 146, 0), (2, 147, 0), (2, 148, 0), (2, 149, 0), (2, 150, 0), (2, 151, 0), (0, (-2147483648), 2147483647), (2, 152, 0), (2, 153, 0), (0, 0, 20), (2, 154, 0), (2, 155, 0), (0, 0, 8), (2, 156, 0), (2, 157, 0), (0, 0, 8), (2, 158, 0), (2, 159, 0), (2, 160, 0), (2, 161, 0), (0, 0, 1), (0, 0, 1), (0, 0, 16400), (2, 162, 0)]),
  .inr (0, 10, (0, 0, 16)),
  .inr (0, 160, (0, (-2147483648), 2147483647)),
  .inr (0, 160, (0, (-2147483648), 2147483647)),
  .inr (0, 160, (0, (-2147483648), 2147483647)),
  .inr (0, 160, (0, (-2147483648), 2147483647)),
  .inr (0, 30, (0, (-2147483648), 2147483647)),
  .inr (0, 10, (0, 0, 200)),
  .inr (0, 2000, (0, (-2147483648), 2147483647)),
  .inr (0, 2000, (0, (-2147483648), 2147483647)),
  .inr (0, 10, (0, (-2147483648), 2147483647)),
  .inr (0, 10, (0, (-2147483648), 2147483647)),
  .inr (0, 10, (0, (-2147483648), 2147483647)),
  .inr (0, 20, (0, (-2147483648), 2147483647)),
  .inr (0, 500, (0, (-2147483648), 2147483647)),
  .inr (0, 115, (0, (-2147483648), 2147483647)),
  .inr (0, 7, (0, 0, 16)),
  .inr (0, 112, (0, (-2147483648), 2147483647)),
  .inr (0, 112, (0, (-2147483648), 2147483647)),
  .inr (0, 112, (0, (-2147483648), 2147483647)),
  .inr (0, 112, (0, (-2147483648), 2147483647)),
  .inr (0, 112, (0, (-2147483648), 2147483647)),
  .inr (0, 112, (0, (-2147483648), 2147483647)),
  .inr (0, 112, (0, (-2147483648), 2147483647)),
  .inr (0, 3500, (0, (-2147483648), 2147483647)),
  .inr (0, 3500, (0, (-2147483648), 2147483647)),
  .inr (0, 40, (0, (-2147483648), 2147483647)),
  .inr (0, 14, (0, (-2147483648), 2147483647)),
  .inr (0, 520, (0, (-2147483648), 2147483647)),
  .inr (0, 5, (0, (-2147483648), 2147483647)),
  .inr (0, 5, (0, (-2147483648), 2147483647)),
  .inr (0, 144, (0, (-2147483648), 2147483647)),
  .inr (0, 144, (0, (-2147483648), 2147483647)),
  .inr (0, 8, (0, (-2147483648), 2147483647)),
  .inr (0, 10, (0, 0, 12)),
  .inr (0, 120, (0, (-2147483648), 2147483647)),
  .inr (0, 120, (0, (-2147483648), 2147483647)),
  .inr (0, 1920, (0, (-2147483648), 2147483647)),
  .inr (0, 1920, (0, (-2147483648), 2147483647)),
  .inr (0, 5, (0, (-2147483648), 2147483647)),
  .inr (0, 5120, (0, (-2147483648), 2147483647)),
  .inr (0, 1024, (0, (-2147483648), 2147483647)),
  .inr (0, 20, (0, (-2147483648), 2147483647)),
  .inr (0, 20, (0, (-2147483648), 2147483647)),
  .inr (0, 8, (0, (-2147483648), 2147483647)),
  .inr (0, 8, (0, (-2147483648), 2147483647)),
  .inr (0, 8, (0, (-2147483648), 2147483647)),
  .inr (0, 8, (0, (-2147483648), 2147483647)),
  .inr (0, 8, (0, (-2147483648), 2147483647)),
  .inr (0, 8, (0, (-2147483648), 2147483647)),
  .inr (0, 16400, (0, (-2147483648), 2147483647))]
theorem rg_0 : rgT[0]? = some (.inl (8, [(2, 25, 0), (0, 0, 10), (2, 26, 0), (2, 27, 0), (0, 0, 1), (0, (-2147483648), 2147483647), (0, (-2147483648), 2147483647), (0, (-2147483648), 2147483647), (2, 28, 0), (2, 29, 0), (0, 0, 20), (2, 30, 0), (2, 31, 0), (0, 0, 8), (2, 32, 0), (2, 33, 0), (0, 0, 8)])) := rfl
theorem rg_1 : rgT[1]? = some (.inl (0, [(0, 0, 16), (2, 2, 0), (2, 3, 0), (2, 4, 0), (2, 5, 0), (2, 6, 0), (2, 7, 0), (2, 8, 0), (0, 0, 200), (0, (-2147483648), 2147483647), (2, 9, 0), (2, 10, 0), (2, 11, 0), (2, 13, 0), (0, 0, 12), (0, (-2147483648), 2147483647), (0, (-2147483648), 2147483647), (2, 15, 0)])) := rfl
theorem rg_2 : rgT[2]? = some (.inr (0, 16, (0, (-2147483648), 2147483647))) := rfl
theorem rg_3 : rgT[3]? = some (.inr (0, 16, (0, (-2147483648), 2147483647))) := rfl
theorem rg_4 : rgT[4]? = some (.inr (0, 16, (0, (-2147483648), 2147483647))) := rfl
theorem rg_5 : rgT[5]? = some (.inr (0, 16, (0, (-2147483648), 2147483647))) := rfl
theorem rg_6 : rgT[6]? = some (.inr (0, 3, (0, (-2147483648), 2147483647))) := rfl
theorem rg_7 : rgT[7]? = some (.inr (0, 200, (0, (-2147483648), 2147483647))) := rfl
theorem rg_8 : rgT[8]? = some (.inr (0, 200, (0, (-2147483648), 2147483647))) := rfl
theorem rg_9 : rgT[9]? = some (.inr (0, 12, (0, (-2147483648), 2147483647))) := rfl
theorem rg_10 : rgT[10]? = some (.inr (0, 12, (0, (-2147483648), 2147483647))) := rfl
theorem rg_11 : rgT[11]? = some (.inr (3, 12, (2, 12, 0))) := rfl
theorem rg_12 : rgT[12]? = some (.inr (0, 16, (0, (-2147483648), 2147483647))) := rfl
theorem rg_13 : rgT[13]? = some (.inr (3, 12, (2, 14, 0))) := rfl
theorem rg_14 : rgT[14]? = some (.inr (0, 16, (0, (-2147483648), 2147483647))) := rfl
theorem rg_15 : rgT[15]? = some (.inr (0, 2, (0, (-2147483648), 2147483647))) := rfl
theorem rg_16 : rgT[16]? = some (.inl (7, [(0, 0, 16), (2, 17, 0), (2, 18, 0), (2, 19, 0), (2, 20, 0), (2, 21, 0), (2, 22, 0), (2, 23, 0), (2, 24, 0), (0, 0, 500)])) := rfl
theorem rg_17 : rgT[17]? = some (.inr (0, 16, (0, (-2147483648), 2147483647))) := rfl
theorem rg_18 : rgT[18]? = some (.inr (0, 16, (0, (-2147483648), 2147483647))) := rfl
theorem rg_19 : rgT[19]? = some (.inr (0, 16, (0, (-2147483648), 2147483647))) := rfl
theorem rg_20 : rgT[20]? = some (.inr (0, 16, (0, (-2147483648), 2147483647))) := rfl
theorem rg_21 : rgT[21]? = some (.inr (0, 16, (0, (-2147483648), 2147483647))) := rfl
theorem rg_22 : rgT[22]? = some (.inr (0, 16, (0, (-2147483648), 2147483647))) := rfl
theorem rg_23 : rgT[23]? = some (.inr (0, 16, (0, (-2147483648), 2147483647))) := rfl
theorem rg_24 : rgT[24]? = some (.inr (0, 500, (0, (-2147483648), 2147483647))) := rfl
theorem rg_25 : rgT[25]? = some (.inr (1, 10, (2, 1, 0))) := rfl
theorem rg_26 : rgT[26]? = some (.inr (2, 2, (2, 16, 0))) := rfl
theorem rg_27 : rgT[27]? = some (.inr (2, 4, (2, 16, 0))) := rfl
theorem rg_28 : rgT[28]? = some (.inr (0, 20, (0, (-2147483648), 2147483647))) := rfl
theorem rg_29 : rgT[29]? = some (.inr (0, 20, (0, (-2147483648), 2147483647))) := rfl
theorem rg_30 : rgT[30]? = some (.inr (0, 8, (0, (-2147483648), 2147483647))) := rfl
theorem rg_31 : rgT[31]? = some (.inr (0, 8, (0, (-2147483648), 2147483647))) := rfl
theorem rg_32 : rgT[32]? = some (.inr (0, 8, (0, (-2147483648), 2147483647))) := rfl
theorem rg_33 : rgT[33]? = some (.inr (0, 8, (0, (-2147483648), 2147483647))) := rfl
theorem rg_34 : rgT[34]? = some (.inl (8, [(2, 59, 0), (0, 0, 10), (2, 60, 0), (2, 61, 0), (0, 0, 1), (0, (-2147483648), 2147483647), (0, (-2147483648), 2147483647), (0, (-2147483648), 2147483647), (2, 62, 0), (2, 63, 0), (0, 0, 20), (2, 64, 0), (2, 65, 0), (0, 0, 8), (2, 66, 0), (2, 67, 0), (0, 0, 8)])) := rfl
theorem rg_35 : rgT[35]? = some (.inl (0, [(0, 0, 16), (2, 36, 0), (2, 37, 0), (2, 38, 0), (2, 39, 0), (2, 40, 0), (2, 41, 0), (2, 42, 0), (0, 0, 200), (0, (-2147483648), 2147483647), (2, 43, 0), (2, 44, 0), (2, 45, 0), (2, 47, 0), (0, 0, 12), (0, (-2147483648), 2147483647), (0, (-2147483648), 2147483647), (2, 49, 0)])) := rfl
theorem rg_36 : rgT[36]? = some (.inr (0, 16, (0, (-2147483648), 2147483647))) := rfl
theorem rg_37 : rgT[37]? = some (.inr (0, 16, (0, (-2147483648), 2147483647))) := rfl
theorem rg_38 : rgT[38]? = some (.inr (0, 16, (0, (-2147483648), 2147483647))) := rfl
theorem rg_39 : rgT[39]? = some (.inr (0, 16, (0, (-2147483648), 2147483647))) := rfl
theorem rg_40 : rgT[40]? = some (.inr (0, 3, (0, (-2147483648), 2147483647))) := rfl
theorem rg_41 : rgT[41]? = some (.inr (0, 200, (0, (-2147483648), 2147483647))) := rfl
theorem rg_42 : rgT[42]? = some (.inr (0, 200, (0, (-2147483648), 2147483647))) := rfl
theorem rg_43 : rgT[43]? = some (.inr (0, 12, (0, (-2147483648), 2147483647))) := rfl
theorem rg_44 : rgT[44]? = some (.inr (0, 12, (0, (-2147483648), 2147483647))) := rfl
theorem rg_45 : rgT[45]? = some (.inr (3, 12, (2, 46, 0))) := rfl
theorem rg_46 : rgT[46]? = some (.inr (0, 16, (0, (-2147483648), 2147483647))) := rfl
theorem rg_47 : rgT[47]? = some (.inr (3, 12, (2, 48, 0))) := rfl
theorem rg_48 : rgT[48]? = some (.inr (0, 16, (0, (-2147483648), 2147483647))) := rfl
theorem rg_49 : rgT[49]? = some (.inr (0, 2, (0, (-2147483648), 2147483647))) := rfl
theorem rg_50 : rgT[50]? = some (.inl (7, [(0, 0, 16), (2, 51, 0), (2, 52, 0), (2, 53, 0), (2, 54, 0), (2, 55, 0), (2, 56, 0), (2, 57, 0), (2, 58, 0), (0, 0, 500)])) := rfl
theorem rg_51 : rgT[51]? = some (.inr (0, 16, (0, (-2147483648), 2147483647))) := rfl
theorem rg_52 : rgT[52]? = some (.inr (0, 16, (0, (-2147483648), 2147483647))) := rfl
theorem rg_53 : rgT[53]? = some (.inr (0, 16, (0, (-2147483648), 2147483647))) := rfl
theorem rg_54 : rgT[54]? = some (.inr (0, 16, (0, (-2147483648), 2147483647))) := rfl
theorem rg_55 : rgT[55]? = some (.inr (0, 16, (0, (-2147483648), 2147483647))) := rfl
theorem rg_56 : rgT[56]? = some (.inr (0, 16, (0, (-2147483648), 2147483647))) := rfl
theorem rg_57 : rgT[57]? = some (.inr (0, 16, (0, (-2147483648), 2147483647))) := rfl
theorem rg_58 : rgT[58]? = some (.inr (0, 500, (0, (-2147483648), 2147483647))) := rfl
theorem rg_59 : rgT[59]? = some (.inr (1, 10, (2, 35, 0))) := rfl
theorem rg_60 : rgT[60]? = some (.inr (2, 2, (2, 50, 0))) := rfl
theorem rg_61 : rgT[61]? = some (.inr (2, 4, (2, 50, 0))) := rfl
theorem rg_62 : rgT[62]? = some (.inr (0, 20, (0, (-2147483648), 2147483647))) := rfl
theorem rg_63 : rgT[63]? = some (.inr (0, 20, (0, (-2147483648), 2147483647))) := rfl
theorem rg_64 : rgT[64]? = some (.inr (0, 8, (0, (-2147483648), 2147483647))) := rfl
theorem rg_65 : rgT[65]? = some (.inr (0, 8, (0, (-2147483648), 2147483647))) := rfl
theorem rg_66 : rgT[66]? = some (.inr (0, 8, (0, (-2147483648), 2147483647))) := rfl
theorem rg_67 : rgT[67]? = some (.inr (0, 8, (0, (-2147483648), 2147483647))) := rfl
theorem rg_68 : rgT[68]? = some (.inl (9, [(2, 0, 0), (3, 34, 0), (2, 108, 0), (0, 0, 500), (2, 78, 0), (2, 82, 0), (2, 89, 0), (2, 98, 0), (2, 104, 0), (2, 109, 0), (2, 110, 0), (2, 111, 0)])) := rfl
theorem rg_69 : rgT[69]? = some (.inl (7, [(0, 0, 16), (2, 70, 0), (2, 71, 0), (2, 72, 0), (2, 73, 0), (2, 74, 0), (2, 75, 0), (2, 76, 0), (2, 77, 0), (0, 0, 500)])) := rfl
theorem rg_70 : rgT[70]? = some (.inr (0, 16, (0, (-2147483648), 2147483647))) := rfl
theorem rg_71 : rgT[71]? = some (.inr (0, 16, (0, (-2147483648), 2147483647))) := rfl
theorem rg_72 : rgT[72]? = some (.inr (0, 16, (0, (-2147483648), 2147483647))) := rfl
theorem rg_73 : rgT[73]? = some (.inr (0, 16, (0, (-2147483648), 2147483647))) := rfl
theorem rg_74 : rgT[74]? = some (.inr (0, 16, (0, (-2147483648), 2147483647))) := rfl
theorem rg_75 : rgT[75]? = some (.inr (0, 16, (0, (-2147483648), 2147483647))) := rfl
theorem rg_76 : rgT[76]? = some (.inr (0, 16, (0, (-2147483648), 2147483647))) := rfl
theorem rg_77 : rgT[77]? = some (.inr (0, 500, (0, (-2147483648), 2147483647))) := rfl
theorem rg_78 : rgT[78]? = some (.inl (4, [(2, 69, 0), (0, (-2147483648), 2147483647), (0, (-2147483648), 2147483647), (2, 79, 0), (2, 80, 0), (2, 81, 0), (0, 0, 501), (0, 0, 500), (0, 0, 1)])) := rfl
theorem rg_79 : rgT[79]? = some (.inr (0, 501, (0, (-2147483648), 2147483647))) := rfl
theorem rg_80 : rgT[80]? = some (.inr (0, 501, (0, (-2147483648), 2147483647))) := rfl
theorem rg_81 : rgT[81]? = some (.inr (0, 501, (0, (-2147483648), 2147483647))) := rfl
theorem rg_82 : rgT[82]? = some (.inl (6, [(2, 83, 0), (2, 84, 0)])) := rfl
theorem rg_83 : rgT[83]? = some (.inr (0, 24, (0, (-2147483648), 2147483647))) := rfl
theorem rg_84 : rgT[84]? = some (.inr (0, 40, (0, (-2147483648), 2147483647))) := rfl
theorem rg_85 : rgT[85]? = some (.inl (2, [(2, 86, 0), (0, (-2147483648), 2147483647)])) := rfl
theorem rg_86 : rgT[86]? = some (.inr (0, 2048, (0, (-2147483648), 2147483647))) := rfl
theorem rg_87 : rgT[87]? = some (.inl (2, [(2, 88, 0), (0, (-2147483648), 2147483647)])) := rfl
theorem rg_88 : rgT[88]? = some (.inr (0, 2048, (0, (-2147483648), 2147483647))) := rfl
theorem rg_89 : rgT[89]? = some (.inl (3, [(2, 90, 0), (2, 91, 0), (2, 92, 0), (2, 93, 0), (2, 94, 0), (2, 95, 0), (2, 96, 0), (2, 97, 0), (2, 85, 0), (0, 0, 8), (0, (-2147483648), 2147483647), (0, (-2147483648), 2147483647)])) := rfl
theorem rg_90 : rgT[90]? = some (.inr (0, 5, (0, (-2147483648), 2147483647))) := rfl
theorem rg_91 : rgT[91]? = some (.inr (0, 144, (0, (-2147483648), 2147483647))) := rfl
theorem rg_92 : rgT[92]? = some (.inr (0, 144, (0, (-2147483648), 2147483647))) := rfl
theorem rg_93 : rgT[93]? = some (.inr (0, 3, (0, (-2147483648), 2147483647))) := rfl
theorem rg_94 : rgT[94]? = some (.inr (0, 3, (0, (-2147483648), 2147483647))) := rfl
theorem rg_95 : rgT[95]? = some (.inr (0, 3, (0, (-2147483648), 2147483647))) := rfl
theorem rg_96 : rgT[96]? = some (.inr (0, 8, (0, (-2147483648), 2147483647))) := rfl
theorem rg_97 : rgT[97]? = some (.inr (0, 8, (0, (-2147483648), 5))) := rfl
theorem rg_98 : rgT[98]? = some (.inl (1, [(2, 99, 0), (2, 100, 0), (2, 101, 0), (2, 102, 0), (0, 0, 1024), (0, 0, 4), (2, 103, 0), (2, 87, 0)])) := rfl
theorem rg_99 : rgT[99]? = some (.inr (0, 240, (0, (-2147483648), 2147483647))) := rfl
theorem rg_100 : rgT[100]? = some (.inr (0, 240, (0, (-2147483648), 2147483647))) := rfl
theorem rg_101 : rgT[101]? = some (.inr (0, 5, (0, 0, 3))) := rfl
theorem rg_102 : rgT[102]? = some (.inr (0, 1024, (0, 0, 1023))) := rfl
theorem rg_103 : rgT[103]? = some (.inr (0, 16, (0, (-2147483648), 2147483647))) := rfl
theorem rg_104 : rgT[104]? = some (.inl (5, [(2, 105, 0), (2, 106, 0), (2, 107, 0), (0, (-2147483648), 2147483647), (0, (-2147483648), 2147483647)])) := rfl
theorem rg_105 : rgT[105]? = some (.inr (0, 8, (0, (-2147483648), 2147483647))) := rfl
theorem rg_106 : rgT[106]? = some (.inr (0, 8, (0, (-2147483648), 2147483647))) := rfl
theorem rg_107 : rgT[107]? = some (.inr (0, 256, (0, (-2147483648), 2147483647))) := rfl
theorem rg_108 : rgT[108]? = some (.inr (0, 500, (0, (-2147483648), 2147483647))) := rfl
theorem rg_109 : rgT[109]? = some (.inr (0, 10, (0, (-2147483648), 2147483647))) := rfl
theorem rg_110 : rgT[110]? = some (.inr (0, 16, (0, (-2147483648), 2147483647))) := rfl
theorem rg_111 : rgT[111]? = some (.inr (0, 16, (0, (-2147483648), 2147483647))) := rfl
theorem rg_112 : rgT[112]? = some (.inl (10, [(0, (-2147483648), 2147483647), (0, 0, 10), (0, 0, 1), (0, (-2147483648), 2147483647), (2, 113, 0), (2, 114, 0), (2, 115, 0), (2, 116, 0), (2, 117, 0), (2, 118, 0), (2, 119, 0), (2, 120, 0), (2, 121, 0), (2, 122, 0), (2, 123, 0), (2, 124, 0), (2, 125, 0), (2, 126, 0), (0, 0, 500), (0, (-2147483648), 2147483647), (0, (-2147483648), 2147483647), (0, (-2147483648), 2147483647), (0, (-2147483648), 2147483647), (2, 127, 0), (2, 128, 0), (2, 129, 0), (2, 130, 0), (2, 131, 0), (2, 132, 0), (2, 133, 0), (2, 134, 0), (2, 135, 0), (2, 136, 0), (2, 137, 0), (0, 0, 1), (0, (-2147483648), 2147483647), (0, (-2147483648), 2147483647), (2, 138, 0), (0, (-2147483648), 2147483647), (0, (-2147483648), 2147483647), (0, (-2147483648), 2147483647), (0, (-2147483648), 2147483647), (0, (-2147483648), 2147483647), (2, 139, 0), (2, 140, 0), (2, 141, 0), (2, 142, 0), (2, 143, 0), (2, 144, 0), (2, 145, 0), (2, 146, 0), (2, 147, 0), (2, 148, 0), (2, 149, 0), (2, 150, 0), (2, 151, 0), (0, (-2147483648), 2147483647), (2, 152, 0), (2, 153, 0), (0, 0, 20), (2, 154, 0), (2, 155, 0), (0, 0, 8), (2, 156, 0), (2, 157, 0), (0, 0, 8), (2, 158, 0), (2, 159, 0), (2, 160, 0), (2, 161, 0), (0, 0, 1), (0, 0, 1), (0, 0, 16400), (2, 162, 0)])) := rfl
theorem rg_113 : rgT[113]? = some (.inr (0, 10, (0, 0, 16))) := rfl
theorem rg_114 : rgT[114]? = some (.inr (0, 160, (0, (-2147483648), 2147483647))) := rfl
theorem rg_115 : rgT[115]? = some (.inr (0, 160, (0, (-2147483648), 2147483647))) := rfl
theorem rg_116 : rgT[116]? = some (.inr (0, 160, (0, (-2147483648), 2147483647))) := rfl
theorem rg_117 : rgT[117]? = some (.inr (0, 160, (0, (-2147483648), 2147483647))) := rfl
theorem rg_118 : rgT[118]? = some (.inr (0, 30, (0, (-2147483648), 2147483647))) := rfl
theorem rg_119 : rgT[119]? = some (.inr (0, 10, (0, 0, 200))) := rfl
theorem rg_120 : rgT[120]? = some (.inr (0, 2000, (0, (-2147483648), 2147483647))) := rfl
theorem rg_121 : rgT[121]? = some (.inr (0, 2000, (0, (-2147483648), 2147483647))) := rfl
theorem rg_122 : rgT[122]? = some (.inr (0, 10, (0, (-2147483648), 2147483647))) := rfl
theorem rg_123 : rgT[123]? = some (.inr (0, 10, (0, (-2147483648), 2147483647))) := rfl
theorem rg_124 : rgT[124]? = some (.inr (0, 10, (0, (-2147483648), 2147483647))) := rfl
theorem rg_125 : rgT[125]? = some (.inr (0, 20, (0, (-2147483648), 2147483647))) := rfl
theorem rg_126 : rgT[126]? = some (.inr (0, 500, (0, (-2147483648), 2147483647))) := rfl
theorem rg_127 : rgT[127]? = some (.inr (0, 115, (0, (-2147483648), 2147483647))) := rfl
theorem rg_128 : rgT[128]? = some (.inr (0, 7, (0, 0, 16))) := rfl
theorem rg_129 : rgT[129]? = some (.inr (0, 112, (0, (-2147483648), 2147483647))) := rfl
theorem rg_130 : rgT[130]? = some (.inr (0, 112, (0, (-2147483648), 2147483647))) := rfl
theorem rg_131 : rgT[131]? = some (.inr (0, 112, (0, (-2147483648), 2147483647))) := rfl
theorem rg_132 : rgT[132]? = some (.inr (0, 112, (0, (-2147483648), 2147483647))) := rfl
theorem rg_133 : rgT[133]? = some (.inr (0, 112, (0, (-2147483648), 2147483647))) := rfl
theorem rg_134 : rgT[134]? = some (.inr (0, 112, (0, (-2147483648), 2147483647))) := rfl
theorem rg_135 : rgT[135]? = some (.inr (0, 112, (0, (-2147483648), 2147483647))) := rfl
theorem rg_136 : rgT[136]? = some (.inr (0, 3500, (0, (-2147483648), 2147483647))) := rfl
theorem rg_137 : rgT[137]? = some (.inr (0, 3500, (0, (-2147483648), 2147483647))) := rfl
theorem rg_138 : rgT[138]? = some (.inr (0, 40, (0, (-2147483648), 2147483647))) := rfl
theorem rg_139 : rgT[139]? = some (.inr (0, 14, (0, (-2147483648), 2147483647))) := rfl
theorem rg_140 : rgT[140]? = some (.inr (0, 520, (0, (-2147483648), 2147483647))) := rfl
theorem rg_141 : rgT[141]? = some (.inr (0, 5, (0, (-2147483648), 2147483647))) := rfl
theorem rg_142 : rgT[142]? = some (.inr (0, 5, (0, (-2147483648), 2147483647))) := rfl
theorem rg_143 : rgT[143]? = some (.inr (0, 144, (0, (-2147483648), 2147483647))) := rfl
theorem rg_144 : rgT[144]? = some (.inr (0, 144, (0, (-2147483648), 2147483647))) := rfl
theorem rg_145 : rgT[145]? = some (.inr (0, 8, (0, (-2147483648), 2147483647))) := rfl
theorem rg_146 : rgT[146]? = some (.inr (0, 10, (0, 0, 12))) := rfl
theorem rg_147 : rgT[147]? = some (.inr (0, 120, (0, (-2147483648), 2147483647))) := rfl
theorem rg_148 : rgT[148]? = some (.inr (0, 120, (0, (-2147483648), 2147483647))) := rfl
theorem rg_149 : rgT[149]? = some (.inr (0, 1920, (0, (-2147483648), 2147483647))) := rfl
theorem rg_150 : rgT[150]? = some (.inr (0, 1920, (0, (-2147483648), 2147483647))) := rfl
theorem rg_151 : rgT[151]? = some (.inr (0, 5, (0, (-2147483648), 2147483647))) := rfl
theorem rg_152 : rgT[152]? = some (.inr (0, 5120, (0, (-2147483648), 2147483647))) := rfl
theorem rg_153 : rgT[153]? = some (.inr (0, 1024, (0, (-2147483648), 2147483647))) := rfl
theorem rg_154 : rgT[154]? = some (.inr (0, 20, (0, (-2147483648), 2147483647))) := rfl
theorem rg_155 : rgT[155]? = some (.inr (0, 20, (0, (-2147483648), 2147483647))) := rfl
theorem rg_156 : rgT[156]? = some (.inr (0, 8, (0, (-2147483648), 2147483647))) := rfl
theorem rg_157 : rgT[157]? = some (.inr (0, 8, (0, (-2147483648), 2147483647))) := rfl
theorem rg_158 : rgT[158]? = some (.inr (0, 8, (0, (-2147483648), 2147483647))) := rfl
theorem rg_159 : rgT[159]? = some (.inr (0, 8, (0, (-2147483648), 2147483647))) := rfl
theorem rg_160 : rgT[160]? = some (.inr (0, 8, (0, (-2147483648), 2147483647))) := rfl
theorem rg_161 : rgT[161]? = some (.inr (0, 8, (0, (-2147483648), 2147483647))) := rfl
theorem rg_162 : rgT[162]? = some (.inr (0, 16400, (0, (-2147483648), 2147483647))) := rfl
end
section
/-! ===== stable words ===== -/
def okW : List Cond := lw_tbl.filter goodWord
theorem ok_of {w : Cond} (h : w ∈ lw_tbl) (g : goodWord w = true) : w ∈ okW := List.mem_filter.mpr ⟨h, g⟩
theorem ok_in {w : Cond} (h : w ∈ okW) : w ∈ lw_tbl := (List.mem_filter.mp h).1
theorem ok_good {w : Cond} (h : w ∈ okW) : goodWord w = true := (List.mem_filter.mp h).2
abbrev wsY (y : MethodName) (b : ByteArray) (n : Nat) (r : Option FieldType) : List Cond := .code y b n r :: okW
theorem good_ws {big : List Cond} (hbig : ∀ w ∈ okW, w ∈ big) {y : MethodName} {b : ByteArray} {n : Nat} {r : Option FieldType} (h : Cond.code y b n r ∈ okW) : GoodIn big (wsY y b n r) := by
  intro w hw
  have h1 : w ∈ okW := by
    rcases List.mem_cons.mp hw with rfl | h1
    · exact h
    · exact h1
  exact ⟨hbig w h1, good_of_word (ok_good h1)⟩
/-! ===== the tables' part of a state: class numbers and slots, array classes ===== -/
/-- (class ids, slots), array classes (0 int[], 1 Bar[], 2 Text[], 3 int[][]), addresses of constants -/
abbrev KE : Type := va_G × (Nat → ClassId) × (Nat → Nat)
def tyL (CA : Nat → ClassId) : List (ClassId × FieldType) := [(CA 0, .int), (CA 1, .object "RingBars$Bar"), (CA 2, .object "RingBars$Text"), (CA 3, .array .int)]
def ao_ok (U : State) : Prop := (Cond.arrayOver (.array .int)).before #[] U = true
theorem ao_moved {u U : State} (hW : u.vm.Alike U.vm) (h : ao_ok u) : ao_ok U := by
  have h1 := Cond.arrayOver_setVmC (args := #[]) (s := u) hW (.array .int)
  unfold ao_ok at h ⊢
  rw [h] at h1
  exact h1
def KT (K : KE) (U : State) : Prop := va_K K.1 vwCl (tyL K.2.1) U ∧ (∀ w ∈ nwl, va_Nw w U) ∧ va_AO "RingBars$Bar" U ∧ va_AO "RingBars$Text" U ∧ ao_ok U
theorem KT.warm {K : KE} {s U : State} (hW : s.WarmedH U.vm) (h : KT K s) : KT K U := by
  obtain ⟨h1, h2, h3, h4, h5⟩ := h
  refine ⟨va_K.moved hW.alike h1, fun w hw => ?_, va_AO.moved hW.alike h3, va_AO.moved hW.alike h4, ao_moved hW.alike h5⟩
  obtain ⟨a, i, x, hh, rfl⟩ := nwl_form w hw
  exact va_Nw.warmM hW (h2 _ hw)
theorem KT.same {K : KE} {u U : State} (hv : u.vm = U.vm) (h : KT K u) : KT K U := by
  obtain ⟨h1, h2, h3, h4, h5⟩ := h
  have hal : u.vm.Alike U.vm := by rw [hv]; exact Vm.Alike.refl _
  refine ⟨va_K.moved hal h1, fun w hw => ?_, va_AO.moved hal h3, va_AO.moved hal h4, ao_moved hal h5⟩
  obtain ⟨a, i, x, hh, rfl⟩ := nwl_form w hw
  exact va_Nw.same rfl hv (h2 _ hw)
/-! ===== reading the heap ===== -/
def fV (H : Heap) (a i : Nat) : Value := match H[a]? with
  | some c => (c.slots[i]?).getD .null
  | none => .null
def fI (H : Heap) (a i : Nat) : Int32 := match fV H a i with
  | .int x => x
  | _ => 0
def fR (H : Heap) (a i : Nat) : Nat := match fV H a i with
  | .ref q => q
  | _ => 0
theorem fV_at {H : Heap} {a i : Nat} {cell : Cell} {v : Value} (h : H[a]? = some cell) (hv : cell.slots[i]? = some v) : fV H a i = v := by simp [fV, h, hv]
theorem fI_at {H : Heap} {a i : Nat} {cell : Cell} {x : Int32} (h : H[a]? = some cell) (hv : cell.slots[i]? = some (.int x)) : fI H a i = x := by simp [fI, fV_at h hv]
theorem fR_at {H : Heap} {a i : Nat} {cell : Cell} {q : Nat} (h : H[a]? = some cell) (hv : cell.slots[i]? = some (.ref q)) : fR H a i = q := by simp [fR, fV_at h hv]
theorem fV_kept {H H1 : Heap} {a i : Nat} (h : H1[a]? = H[a]?) : fV H1 a i = fV H a i := by simp [fV, h]
theorem fI_kept {H H1 : Heap} {a i : Nat} (h : H1[a]? = H[a]?) : fI H1 a i = fI H a i := by simp [fI, fV_kept h]
theorem fR_kept {H H1 : Heap} {a i : Nat} (h : H1[a]? = H[a]?) : fR H1 a i = fR H a i := by simp [fR, fV_kept h]
/-! ===== regions: every typed cell fits its region's shape ===== -/
/-- (0, lo, hi): an int; (2, c, _): a cell of region c; else: a cell of region c or null -/
abbrev FT : Type := Nat × Int × Int
/-- inl: an object of class ci; inr: an array (array class ti, length, places) -/
abbrev SH : Type := (Nat × List FT) ⊕ (Nat × Nat × FT)
def OkV (G : Nat → Option Nat) (f : FT) (v : Value) : Prop :=
  if f.1 = 0 then ∃ x : Int32, v = .int x ∧ f.2.1 ≤ x.toInt ∧ x.toInt ≤ f.2.2
  else if f.1 = 2 then ∃ q : Nat, v = .ref q ∧ G q = some f.2.1.toNat
  else v = .null ∨ ∃ q : Nat, v = .ref q ∧ G q = some f.2.1.toNat
def CellOk (K : KE) (G : Nat → Option Nat) (H : Heap) (a : Nat) (σ : SH) : Prop := match σ with
  | .inl o => ∃ cell : Cell, H[a]? = some cell ∧ cell.cls = K.1.1 o.1 ∧ cell.vm = .none ∧ ∀ (k : Nat) (f : FT), o.2[k]? = some f → ∃ v : Value, cell.slots[K.1.2 o.1 k]? = some v ∧ OkV G f v
  | .inr r => ∃ cell : Cell, H[a]? = some cell ∧ cell.cls = K.2.1 r.1 ∧ cell.vm = .none ∧ cell.slots.size = r.2.1 ∧ ∀ j : Nat, j < r.2.1 → ∃ v : Value, cell.slots[j]? = some v ∧ OkV G r.2.2 v
def TY (K : KE) (G : Nat → Option Nat) (H : Heap) : Prop := ∀ (a t : Nat), G a = some t → ∃ σ : SH, rgT[t]? = some σ ∧ CellOk K G H a σ
theorem CellOk.kept {K : KE} {G : Nat → Option Nat} {H H1 : Heap} {a : Nat} {σ : SH} (h : CellOk K G H a σ) (hq : H1[a]? = H[a]?) : CellOk K G H1 a σ := by
  cases σ with
  | inl o => obtain ⟨c, h1, h2⟩ := h; exact ⟨c, hq.trans h1, h2⟩
  | inr r => obtain ⟨c, h1, h2⟩ := h; exact ⟨c, hq.trans h1, h2⟩
theorem CellOk.lt {K : KE} {G : Nat → Option Nat} {H : Heap} {a : Nat} {σ : SH} (h : CellOk K G H a σ) : a < H.size := by
  cases σ with
  | inl o => obtain ⟨c, h1, h2⟩ := h; exact (Array.getElem?_eq_some_iff.mp h1).1
  | inr r => obtain ⟨c, h1, h2⟩ := h; exact (Array.getElem?_eq_some_iff.mp h1).1
theorem TY.lt {K : KE} {G : Nat → Option Nat} {H : Heap} (h : TY K G H) {a t : Nat} (ha : G a = some t) : a < H.size := by
  obtain ⟨σ, -, h2⟩ := h a t ha
  exact h2.lt
theorem TY.at {K : KE} {G : Nat → Option Nat} {H : Heap} (h : TY K G H) {a t : Nat} {σ : SH} (ha : G a = some t) (hs : rgT[t]? = some σ) : CellOk K G H a σ := by
  obtain ⟨σ', h1, h2⟩ := h a t ha
  cases h1.symm.trans hs
  exact h2
theorem OkV.mono {G G1 : Nat → Option Nat} (hG : ∀ q t, G q = some t → G1 q = some t) {f : FT} {v : Value} (h : OkV G f v) : OkV G1 f v := by
  unfold OkV at h ⊢
  split at h
  · rename_i h0; rw [if_pos h0]; exact h
  · rename_i h0; rw [if_neg h0]
    split at h
    · rename_i h2; rw [if_pos h2]; obtain ⟨q, e, g⟩ := h; exact ⟨q, e, hG _ _ g⟩
    · rename_i h2; rw [if_neg h2]
      rcases h with h | ⟨q, e, g⟩
      · exact Or.inl h
      · exact Or.inr ⟨q, e, hG _ _ g⟩
theorem CellOk.mono {K : KE} {G G1 : Nat → Option Nat} (hG : ∀ q t, G q = some t → G1 q = some t) {H : Heap} {a : Nat} {σ : SH} (h : CellOk K G H a σ) : CellOk K G1 H a σ := by
  cases σ with
  | inl o => obtain ⟨c, h1, h2, h3, h4⟩ := h; exact ⟨c, h1, h2, h3, fun k f hk => by obtain ⟨v, e1, e2⟩ := h4 k f hk; exact ⟨v, e1, e2.mono hG⟩⟩
  | inr r => obtain ⟨c, h1, h2, h3, h5, h4⟩ := h; exact ⟨c, h1, h2, h3, h5, fun k hk => by obtain ⟨v, e1, e2⟩ := h4 k hk; exact ⟨v, e1, e2.mono hG⟩⟩
theorem okv_int {G : Nat → Option Nat} {lo hi : Int} {v : Value} (h : OkV G (0, lo, hi) v) : ∃ x : Int32, v = .int x ∧ lo ≤ x.toInt ∧ x.toInt ≤ hi := h
theorem okv_ref {G : Nat → Option Nat} {c b : Int} {v : Value} (h : OkV G (2, c, b) v) : ∃ q : Nat, v = .ref q ∧ G q = some c.toNat := h
theorem okv_nul {G : Nat → Option Nat} {c b : Int} {v : Value} (h : OkV G (3, c, b) v) : v = .null ∨ ∃ q : Nat, v = .ref q ∧ G q = some c.toNat := h
/-- an int field: what is read, and its range -/
theorem TY.fint {K : KE} {G : Nat → Option Nat} {H : Heap} (h : TY K G H) {a t ci k : Nat} {fs : List FT} {lo hi : Int} (ha : G a = some t) (hs : rgT[t]? = some (.inl (ci, fs))) (hf : fs[k]? = some (0, lo, hi)) :
    ∃ cell : Cell, H[a]? = some cell ∧ cell.vm = .none ∧ cell.cls = K.1.1 ci ∧ cell.slots[K.1.2 ci k]? = some (.int (fI H a (K.1.2 ci k))) ∧ lo ≤ (fI H a (K.1.2 ci k)).toInt ∧ (fI H a (K.1.2 ci k)).toInt ≤ hi := by
  obtain ⟨cell, h1, h2, h3, h4⟩ := h.at ha hs
  obtain ⟨v, e1, e2⟩ := h4 k _ hf
  obtain ⟨x, rfl, e3, e4⟩ := okv_int e2
  rw [fI_at h1 e1]
  exact ⟨cell, h1, h3, h2, e1, e3, e4⟩
theorem TY.fref {K : KE} {G : Nat → Option Nat} {H : Heap} (h : TY K G H) {a t ci k : Nat} {fs : List FT} {c b : Int} (ha : G a = some t) (hs : rgT[t]? = some (.inl (ci, fs))) (hf : fs[k]? = some (2, c, b)) :
    ∃ cell : Cell, H[a]? = some cell ∧ cell.vm = .none ∧ cell.cls = K.1.1 ci ∧ cell.slots[K.1.2 ci k]? = some (.ref (fR H a (K.1.2 ci k))) ∧ G (fR H a (K.1.2 ci k)) = some c.toNat := by
  obtain ⟨cell, h1, h2, h3, h4⟩ := h.at ha hs
  obtain ⟨v, e1, e2⟩ := h4 k _ hf
  obtain ⟨x, rfl, e3⟩ := okv_ref e2
  rw [fR_at h1 e1]
  exact ⟨cell, h1, h3, h2, e1, e3⟩
theorem TY.fnul {K : KE} {G : Nat → Option Nat} {H : Heap} (h : TY K G H) {a t ci k : Nat} {fs : List FT} {c b : Int} (ha : G a = some t) (hs : rgT[t]? = some (.inl (ci, fs))) (hf : fs[k]? = some (3, c, b)) :
    ∃ cell : Cell, H[a]? = some cell ∧ cell.vm = .none ∧ cell.cls = K.1.1 ci ∧ cell.slots[K.1.2 ci k]? = some (fV H a (K.1.2 ci k)) ∧ (fV H a (K.1.2 ci k) = .null ∨ (fV H a (K.1.2 ci k) = .ref (fR H a (K.1.2 ci k)) ∧ G (fR H a (K.1.2 ci k)) = some c.toNat)) := by
  obtain ⟨cell, h1, h2, h3, h4⟩ := h.at ha hs
  obtain ⟨v, e1, e2⟩ := h4 k _ hf
  rw [fV_at h1 e1]
  refine ⟨cell, h1, h3, h2, e1, ?_⟩
  rcases okv_nul e2 with rfl | ⟨q, rfl, e3⟩
  · exact Or.inl rfl
  · rw [fR_at h1 e1]
    exact Or.inr ⟨rfl, e3⟩
theorem TY.aint {K : KE} {G : Nat → Option Nat} {H : Heap} (h : TY K G H) {a t ti n : Nat} {lo hi : Int} (ha : G a = some t) (hs : rgT[t]? = some (.inr (ti, n, (0, lo, hi)))) {j : Nat} (hj : j < n) :
    ∃ cell : Cell, H[a]? = some cell ∧ cell.vm = .none ∧ cell.cls = K.2.1 ti ∧ cell.slots.size = n ∧ cell.slots[j]? = some (.int (fI H a j)) ∧ lo ≤ (fI H a j).toInt ∧ (fI H a j).toInt ≤ hi := by
  obtain ⟨cell, h1, h2, h3, h5, h4⟩ := h.at ha hs
  obtain ⟨v, e1, e2⟩ := h4 j hj
  obtain ⟨x, rfl, e3, e4⟩ := okv_int e2
  rw [fI_at h1 e1]
  exact ⟨cell, h1, h3, h2, h5, e1, e3, e4⟩
theorem TY.aref {K : KE} {G : Nat → Option Nat} {H : Heap} (h : TY K G H) {a t ti n : Nat} {c b : Int} (ha : G a = some t) (hs : rgT[t]? = some (.inr (ti, n, (2, c, b)))) {j : Nat} (hj : j < n) :
    ∃ cell : Cell, H[a]? = some cell ∧ cell.vm = .none ∧ cell.cls = K.2.1 ti ∧ cell.slots.size = n ∧ cell.slots[j]? = some (.ref (fR H a j)) ∧ G (fR H a j) = some c.toNat := by
  obtain ⟨cell, h1, h2, h3, h5, h4⟩ := h.at ha hs
  obtain ⟨v, e1, e2⟩ := h4 j hj
  obtain ⟨x, rfl, e3⟩ := okv_ref e2
  rw [fR_at h1 e1]
  exact ⟨cell, h1, h3, h2, h5, e1, e3⟩
theorem TY.alen {K : KE} {G : Nat → Option Nat} {H : Heap} (h : TY K G H) {a t ti n : Nat} {f : FT} (ha : G a = some t) (hs : rgT[t]? = some (.inr (ti, n, f))) :
    ∃ cell : Cell, H[a]? = some cell ∧ cell.vm = .none ∧ cell.cls = K.2.1 ti ∧ cell.slots.size = n := by
  obtain ⟨cell, h1, h2, h3, h5, -⟩ := h.at ha hs
  exact ⟨cell, h1, h3, h2, h5⟩
/-- one cell's slot is written: the typing stays if the new value fits -/
theorem TY.putF {K : KE} {G : Nat → Option Nat} {H H1 : Heap} (h : TY K G H) {a t ci k : Nat} {fs : List FT} {f : FT} {cell : Cell} {v : Value} (ha : G a = some t) (hs : rgT[t]? = some (.inl (ci, fs))) (hap : ∀ x y, x < fs.length → y < fs.length → x ≠ y → K.1.2 ci x ≠ K.1.2 ci y) (hf : fs[k]? = some f) (hv : OkV G f v)
    (hc : H[a]? = some cell) (e1 : H1[a]? = some (cell.setSlot (K.1.2 ci k) v)) (oq : ∀ q : Nat, q ≠ a → H1[q]? = H[q]?) : TY K G H1 := by
  intro b t' hb
  by_cases hba : b = a
  · subst hba
    cases ha.symm.trans hb
    refine ⟨_, hs, ?_⟩
    obtain ⟨c, h1, h2, h3, h4⟩ := h.at ha hs
    cases hc.symm.trans h1
    refine ⟨_, e1, h2, h3, fun j g hj => ?_⟩
    have hjl : j < fs.length := (List.getElem?_eq_some_iff.mp hj).1
    have hkl : k < fs.length := (List.getElem?_eq_some_iff.mp hf).1
    by_cases hjk : j = k
    · subst hjk
      cases hf.symm.trans hj
      obtain ⟨v0, q1, -⟩ := h4 j _ hj
      exact ⟨v, Cell.slots_setSlot_self _ (k2_hasslot q1), hv⟩
    · rw [slot_ne _ _ (hap k j hkl hjl (Ne.symm hjk))]
      exact h4 j g hj
  · obtain ⟨σ, h1, h2⟩ := h b t' hb
    exact ⟨σ, h1, h2.kept (oq b hba)⟩
theorem TY.putA {K : KE} {G : Nat → Option Nat} {H H1 : Heap} (h : TY K G H) {a t ti n j : Nat} {f : FT} {cell : Cell} {v : Value} (ha : G a = some t) (hs : rgT[t]? = some (.inr (ti, n, f))) (hj : j < n) (hv : OkV G f v)
    (hc : H[a]? = some cell) (e1 : H1[a]? = some (cell.setSlot j v)) (oq : ∀ q : Nat, q ≠ a → H1[q]? = H[q]?) : TY K G H1 := by
  intro b t' hb
  by_cases hba : b = a
  · subst hba
    cases ha.symm.trans hb
    refine ⟨_, hs, ?_⟩
    obtain ⟨c, h1, h2, h3, h5, h4⟩ := h.at ha hs
    cases hc.symm.trans h1
    refine ⟨_, e1, h2, h3, by rw [k2_slotsz]; exact h5, fun i hi => ?_⟩
    by_cases hij : i = j
    · subst hij
      obtain ⟨v0, q1, -⟩ := h4 i hi
      exact ⟨v, Cell.slots_setSlot_self _ (k2_hasslot q1), hv⟩
    · rw [slot_ne _ _ (Ne.symm hij)]
      exact h4 i hi
  · obtain ⟨σ, h1, h2⟩ := h b t' hb
    exact ⟨σ, h1, h2.kept (oq b hba)⟩
/-- reading behind a write of one slot -/
theorem fI_set {H H1 : Heap} {a i : Nat} {cell : Cell} {x : Int32} (hc : H[a]? = some cell) (hi : i < cell.slots.size) (e1 : H1[a]? = some (cell.setSlot i (.int x))) : fI H1 a i = x := fI_at e1 (Cell.slots_setSlot_self _ hi)
theorem fV_setne {H H1 : Heap} {a i j : Nat} {cell : Cell} {v : Value} (hc : H[a]? = some cell) (e1 : H1[a]? = some (cell.setSlot i v)) (hij : j ≠ i) : fV H1 a j = fV H a j := by
  simp only [fV, e1, hc]
  rw [slot_ne _ _ (Ne.symm hij)]
theorem fI_setne {H H1 : Heap} {a i j : Nat} {cell : Cell} {v : Value} (hc : H[a]? = some cell) (e1 : H1[a]? = some (cell.setSlot i v)) (hij : j ≠ i) : fI H1 a j = fI H a j := by simp only [fI, fV_setne hc e1 hij]
theorem fR_setne {H H1 : Heap} {a i j : Nat} {cell : Cell} {v : Value} (hc : H[a]? = some cell) (e1 : H1[a]? = some (cell.setSlot i v)) (hij : j ≠ i) : fR H1 a j = fR H a j := by simp only [fR, fV_setne hc e1 hij]
/-- what one write leaves: all but place i of cell a is as it was, there it is v -/
def Wr (H H1 : Heap) (a i : Nat) (v : Value) : Prop := H1.size = H.size ∧ (∀ q : Nat, q ≠ a → H1[q]? = H[q]?) ∧ fV H1 a i = v ∧ ∀ j : Nat, j ≠ i → fV H1 a j = fV H a j
theorem Wr.off {H H1 : Heap} {a i : Nat} {v : Value} (h : Wr H H1 a i v) {q : Nat} (hq : q ≠ a) : H1[q]? = H[q]? := h.2.1 q hq
theorem Wr.I {H H1 : Heap} {a i : Nat} {x : Int32} (h : Wr H H1 a i (.int x)) : fI H1 a i = x := by simp [fI, h.2.2.1]
theorem Wr.R {H H1 : Heap} {a i : Nat} {x : Nat} (h : Wr H H1 a i (.ref x)) : fR H1 a i = x := by simp [fR, h.2.2.1]
theorem Wr.neI {H H1 : Heap} {a i : Nat} {v : Value} (h : Wr H H1 a i v) {q j : Nat} (hq : q ≠ a ∨ j ≠ i) : fI H1 q j = fI H q j := by
  by_cases e : q = a
  · subst e
    simp only [fI, h.2.2.2 j (hq.resolve_left (fun z => z rfl))]
  · exact fI_kept (h.2.1 q e)
theorem Wr.neV {H H1 : Heap} {a i : Nat} {v : Value} (h : Wr H H1 a i v) {q j : Nat} (hq : q ≠ a ∨ j ≠ i) : fV H1 q j = fV H q j := by
  by_cases e : q = a
  · subst e
    exact h.2.2.2 j (hq.resolve_left (fun z => z rfl))
  · exact fV_kept (h.2.1 q e)
theorem Wr.neR {H H1 : Heap} {a i : Nat} {v : Value} (h : Wr H H1 a i v) {q j : Nat} (hq : q ≠ a ∨ j ≠ i) : fR H1 q j = fR H q j := by
  simp only [fR, h.neV hq]
theorem G_ne {G : Nat → Option Nat} {a b t u : Nat} (ha : G a = some t) (hb : G b = some u) (h : t ≠ u) : a ≠ b := by
  intro e
  subst e
  exact h (Option.some.inj (ha.symm.trans hb))
end
section
/-! ===== contracts over the typed heap ===== -/
def AE (G : Nat → Option Nat) (eff : List Nat) (sz : Nat) : Nat → Prop := fun q => (∃ t, G q = some t ∧ t ∈ eff) ∨ sz ≤ q
def QX (post : Option Value → Heap → Prop) (A : Nat → Prop) : Array Value → State → Outcome → State → Prop := fun _ st oc t => ∃ v : Option Value, oc = .returned v ∧ post v t.heap ∧ va_F A st t
def MX (l : Launch) (K : KE) (y : MethodName) (b : ByteArray) (n : Nat) (r : Option FieldType) (fr lo mc ms : Nat) (av : List Value) (H0 : Heap) (A : Nat → Prop) (post : Option Value → Heap → Prop) : Prop :=
  Met l y (wsY y b n r) { frames := fr, cells := mc, slots := ms, locals := lo } (va_Pc av (fun U => U.heap = H0 ∧ KT K U)) (QX post A) mc ms A
def CX (p : Program) (K : KE) (s : State) (m : MethodId) (args : Array Value) (meth : Method) (c : Code) (own : String) (b : ByteArray) (n : Nat) (r : Option FieldType) (nm : String) : Prop :=
  p.tables.exec = Jvm.exec ∧ c.code = b ∧ c.maxLocals = n ∧ s.vm.findClass own = some m.cls ∧ (∀ w ∈ okW, w.before args s = true) ∧ KT K s ∧ meth.sig.returnType = r ∧ meth.locks = false ∧ meth.name = nm
theorem AE_sub {G G0 : Nat → Option Nat} {e1 e0 : List Nat} {z1 z0 : Nat} (hG : ∀ q, q < z0 → G q = G0 q) (hs : ∀ t ∈ e1, t ∈ e0) (hz : z0 ≤ z1) : ∀ q, AE G e1 z1 q → AE G0 e0 z0 q := by
  intro q h
  by_cases hq : q < z0
  · rcases h with ⟨t, h1, h2⟩ | h
    · exact Or.inl ⟨t, by rw [← hG q hq]; exact h1, hs t h2⟩
    · omega
  · exact Or.inr (Nat.not_lt.mp hq)
theorem AE_not {G : Nat → Option Nat} {e : List Nat} {z q t : Nat} (h : G q = some t) (hn : t ∉ e) (hz : q < z) : ¬ AE G e z q := by
  intro h2
  rcases h2 with ⟨u, h1, h3⟩ | h3
  · cases h.symm.trans h1
    exact hn h3
  · omega
theorem AE_in {G : Nat → Option Nat} {e : List Nat} {z q t : Nat} (h : G q = some t) (hn : t ∈ e) : AE G e z q := Or.inl ⟨t, h, hn⟩
theorem MX.of {l : Launch} {K : KE} {y : MethodName} {b : ByteArray} {n : Nat} {r : Option FieldType} {fr lo mc ms : Nat} {av : List Value} {H0 : Heap} {A : Nat → Prop} {post : Option Value → Heap → Prop} (hy : plainName y.cls = true) (hn : (lg_sl av).length ≤ n)
    (body : ∀ (p : Program) (e : Env) (s : State) (m : MethodId) (below : List Frame) (meth : Method) (c : Code) (ls : Array Slot) (Q : State → Prop), CX p K s m av.toArray meth c y.cls b n r y.name → s.heap = H0 → lv_has ls n (lv_args 0 av) → Q = MQ below (QX post A) av.toArray s mc ms A →
      W p l e { frames := fr, cells := mc, slots := ms, locals := lo } s m av.toArray below meth c H0 [] 0 0 Q (F0 m 0 ls [])) : MX l K y b n r fr lo mc ms av H0 A post := by
  refine Met.ofW (cc := b) (maxL := n) (ret := r) hy rfl ?_
  intro p e s m args below meth c s₁ B hml hv
  obtain ⟨rfl, hH, hK⟩ := hv
  have hts := atoms_spec (ws := wsY y b n r) B.pre
  have hl := lv_entry av (n := n) hn
  rw [lg_entry_eq]
  rw [hH]
  exact body p e s m below meth c _ _ ⟨B.exec, B.bytes, hml, findClass_of_methodNamed B.named, fun w hw => hts w (List.mem_cons_of_mem _ hw), hK, B.returns, B.notSynchronized, (name_of_methodNamed B.named B.method).1⟩ hH hl rfl
section XR
variable {p : Program} {l : Launch} {e : Env} {R : Room} {s : State} {m : MethodId} {args : Array Value} {below : List Frame} {meth : Method} {c : Code} {H : Heap} {locs : List Loc} {cells slots : Nat} {Q : State → Prop}
variable {K : KE} {own nm : String} {b : ByteArray} {n : Nat} {r : Option FieldType} {pc : Nat} {ls : Array Slot} {rest st : List Value} {A A0 A1 : Nat → Prop} {H0 : Heap} {G : Nat → Option Nat} {post : Option Value → Heap → Prop} {mc ms : Nat}
/-! returns -/
theorem x_iret (C : CX p K s m args meth c own b n (some .int) nm) (hQ : Q = MQ below (QX post A) args s mc ms A) {v : Int32} (hd : decode b pc = .ok (.ireturn, 1)) (hS : va_S A s.heap H locs) (h1 : cells ≤ mc) (h2 : slots ≤ ms) (hp : post (some (.int v)) H) : W p l e R s m args below meth c H locs cells slots Q (F0 m pc ls [.int v]) := by
  obtain ⟨hx, hb, hml, hown, hts, hK, hr, hlocks, hnm⟩ := C
  subst hQ
  exact W.widen h1 h2 (W.iret hx hb hr (fun t ht _ => ⟨_, rfl, by rw [ht]; exact hp, hS.F ht⟩) hS.2.2 hd)
theorem x_zret (C : CX p K s m args meth c own b n (some .boolean) nm) (hQ : Q = MQ below (QX post A) args s mc ms A) {v : Int32} (hv : v = 0 ∨ v = 1) (hd : decode b pc = .ok (.ireturn, 1)) (hS : va_S A s.heap H locs) (h1 : cells ≤ mc) (h2 : slots ≤ ms) (hp : post (some (.int v)) H) : W p l e R s m args below meth c H locs cells slots Q (F0 m pc ls [.int v]) := by
  obtain ⟨hx, hb, hml, hown, hts, hK, hr, hlocks, hnm⟩ := C
  subst hQ
  exact W.widen h1 h2 (W.zret hx hb hr (by rcases hv with rfl | rfl <;> rfl) (fun t ht _ => ⟨_, rfl, by rw [ht]; exact hp, hS.F ht⟩) hS.2.2 hd)
theorem x_vret (C : CX p K s m args meth c own b n none nm) (hQ : Q = MQ below (QX post A) args s mc ms A) (hd : decode b pc = .ok (.return_, 1)) (hS : va_S A s.heap H locs) (h1 : cells ≤ mc) (h2 : slots ≤ ms) (hp : post none H) : W p l e R s m args below meth c H locs cells slots Q (F0 m pc ls []) := by
  obtain ⟨hx, hb, hml, hown, hts, hK, hr, hlocks, hnm⟩ := C
  subst hQ
  exact W.widen h1 h2 (W.vret hx hb hr (fun t ht _ => ⟨_, rfl, by rw [ht]; exact hp, hS.F ht⟩) hS.2.2 hd)
theorem x_aret {C0 : String} (C : CX p K s m args meth c own b n (some (.object C0)) nm) (hQ : Q = MQ below (QX post A) args s mc ms A) {v : Value} (hv : v = .null ∨ ∃ a, v = .ref a) (hd : decode b pc = .ok (.areturn, 1)) (hS : va_S A s.heap H locs) (h1 : cells ≤ mc) (h2 : slots ≤ ms) (hp : post (some v) H) : W p l e R s m args below meth c H locs cells slots Q (F0 m pc ls [v]) := by
  obtain ⟨hx, hb, hml, hown, hts, hK, hr, hlocks, hnm⟩ := C
  subst hQ
  exact W.widen h1 h2 (W.aret hx hb hr (Or.inl ⟨_, rfl⟩) hv (fun t ht _ => ⟨_, rfl, by rw [ht]; exact hp, hS.F ht⟩) hS.2.2 hd)
/-! fields -/
theorem x_apart {ci N : Nat} {Cn : String} {T : u_T} (hK : KT K s) (hts : ∀ w ∈ okW, w.before args s = true) (hin : ∀ w ∈ u_ws Cn T N, w ∈ okW) (ty : Nat → FieldType) (hty : ∀ k, k < N → parseFieldDescriptor (T k).2.2.1 = some (ty k)) (hnm : ∀ a, a < N → ∀ b, b < N → a ≠ b → (T a).2.1 ≠ (T b).2.1) (hc : vwCl[ci]? = some (Cn, T, N)) : ∀ x y, x < N → y < N → x ≠ y → K.1.2 ci x ≠ K.1.2 ci y :=
  va_apart (own := "") hts hin ty hty hnm hK.1 hc
theorem x_get (C : CX p K s m args meth c own b n r nm) {ci k N idx a : Nat} {Cn : String} {T : u_T} {v : Value} {cell : Cell} (hc : vwCl[ci]? = some (Cn, T, N)) (hin : ∀ w ∈ u_ws Cn T N, w ∈ okW) (hk : k < N) (hw : Cond.fieldLink own idx (T k).1 (T k).2.1 (T k).2.2.1 ∈ okW)
    (h1 : H[a]? = some cell) (h2 : cell.vm = .none) (h3 : cell.slots[K.1.2 ci k]? = some v) (hd : decode b pc = .ok (.getfield idx, 3)) (kk : W p l e R s m args below meth c H locs cells slots Q (F0 m (pc + 3) ls (v :: rest))) : W p l e R s m args below meth c H locs cells slots Q (F0 m pc ls (.ref a :: rest)) := by
  obtain ⟨hx, hb, hml, hown, hts, hK, hr, hlocks, hnm⟩ := C
  obtain ⟨hS, hfc, kC, hkC, hkind⟩ := hK.1.1 ci _ hc
  obtain ⟨cf, kf, fi, f, hi, hsl⟩ := hS k hk
  exact W.getf hx hb hown (hts _ hw) hi (u_facts hfc hkC (u_lays hts hin hk) hi).1 h1 (by rw [h2]; exact fun h => by cases h) (v := v) (by rw [hsl]; exact h3) rfl rfl hd kk
/-- an int field is read -/
theorem x_geti (C : CX p K s m args meth c own b n r nm) (hT : TY K G H) {ci k N idx a t : Nat} {Cn : String} {T : u_T} {fs : List FT} {lo hi : Int} (hc : vwCl[ci]? = some (Cn, T, N)) (hin : ∀ w ∈ u_ws Cn T N, w ∈ okW) (hk : k < N) (hw : Cond.fieldLink own idx (T k).1 (T k).2.1 (T k).2.2.1 ∈ okW)
    (hG : G a = some t) (hs : rgT[t]? = some (.inl (ci, fs))) (hf : fs[k]? = some (0, lo, hi)) (hd : decode b pc = .ok (.getfield idx, 3))
    (kk : lo ≤ (fI H a (K.1.2 ci k)).toInt ∧ (fI H a (K.1.2 ci k)).toInt ≤ hi → W p l e R s m args below meth c H locs cells slots Q (F0 m (pc + 3) ls (.int (fI H a (K.1.2 ci k)) :: rest))) : W p l e R s m args below meth c H locs cells slots Q (F0 m pc ls (.ref a :: rest)) := by
  obtain ⟨cell, h1, h2, -, h3, h4, h5⟩ := hT.fint hG hs hf
  exact x_get C hc hin hk hw h1 h2 h3 hd (kk ⟨h4, h5⟩)
theorem x_getr (C : CX p K s m args meth c own b n r nm) (hT : TY K G H) {ci k N idx a t : Nat} {Cn : String} {T : u_T} {fs : List FT} {cc bb : Int} (hc : vwCl[ci]? = some (Cn, T, N)) (hin : ∀ w ∈ u_ws Cn T N, w ∈ okW) (hk : k < N) (hw : Cond.fieldLink own idx (T k).1 (T k).2.1 (T k).2.2.1 ∈ okW)
    (hG : G a = some t) (hs : rgT[t]? = some (.inl (ci, fs))) (hf : fs[k]? = some (2, cc, bb)) (hd : decode b pc = .ok (.getfield idx, 3))
    (kk : G (fR H a (K.1.2 ci k)) = some cc.toNat → W p l e R s m args below meth c H locs cells slots Q (F0 m (pc + 3) ls (.ref (fR H a (K.1.2 ci k)) :: rest))) : W p l e R s m args below meth c H locs cells slots Q (F0 m pc ls (.ref a :: rest)) := by
  obtain ⟨cell, h1, h2, -, h3, h4⟩ := hT.fref hG hs hf
  exact x_get C hc hin hk hw h1 h2 h3 hd (kk h4)
theorem x_getn (C : CX p K s m args meth c own b n r nm) (hT : TY K G H) {ci k N idx a t : Nat} {Cn : String} {T : u_T} {fs : List FT} {cc bb : Int} (hc : vwCl[ci]? = some (Cn, T, N)) (hin : ∀ w ∈ u_ws Cn T N, w ∈ okW) (hk : k < N) (hw : Cond.fieldLink own idx (T k).1 (T k).2.1 (T k).2.2.1 ∈ okW)
    (hG : G a = some t) (hs : rgT[t]? = some (.inl (ci, fs))) (hf : fs[k]? = some (3, cc, bb)) (hd : decode b pc = .ok (.getfield idx, 3))
    (k0 : fV H a (K.1.2 ci k) = .null → W p l e R s m args below meth c H locs cells slots Q (F0 m (pc + 3) ls (.null :: rest)))
    (k1 : fV H a (K.1.2 ci k) = .ref (fR H a (K.1.2 ci k)) → G (fR H a (K.1.2 ci k)) = some cc.toNat → W p l e R s m args below meth c H locs cells slots Q (F0 m (pc + 3) ls (.ref (fR H a (K.1.2 ci k)) :: rest))) : W p l e R s m args below meth c H locs cells slots Q (F0 m pc ls (.ref a :: rest)) := by
  obtain ⟨cell, h1, h2, -, h3, h4⟩ := hT.fnul hG hs hf
  rcases h4 with h4 | ⟨h4, h5⟩
  · exact x_get C hc hin hk hw h1 h2 (by rw [h3, h4]) hd (k0 h4)
  · exact x_get C hc hin hk hw h1 h2 (by rw [h3, h4]) hd (k1 h4 h5)
/-- a field of a typed cell is written -/
theorem x_put (C : CX p K s m args meth c own b n r nm) (hT : TY K G H) (hS0 : va_S A H0 H locs) {ci k N idx a t : Nat} {Cn : String} {T : u_T} {fs : List FT} {f : FT} {ty0 : Nat → FieldType} {v : Value} (hc : vwCl[ci]? = some (Cn, T, N)) (hin : ∀ w ∈ u_ws Cn T N, w ∈ okW) (hty : ∀ k, k < N → parseFieldDescriptor (T k).2.2.1 = some (ty0 k)) (hnm : ∀ a, a < N → ∀ b, b < N → a ≠ b → (T a).2.1 ≠ (T b).2.1) (hk : k < N) (hfin : (T k).2.2.2 = false) (hw : Cond.fieldLink own idx (T k).1 (T k).2.1 (T k).2.2.1 ∈ okW)
    (hG : G a = some t) (hs : rgT[t]? = some (.inl (ci, fs))) (hlen : fs.length = N) (hf : fs[k]? = some f) (hv : OkV G f v) (hn1 : narrow (ty0 k) v = v) (hn2 : fits (ty0 k) v = true) (hA : A a) (hd : decode b pc = .ok (.putfield idx, 3))
    (kk : ∀ (H1 : Heap) (locs1 : List Loc), TY K G H1 → va_S A H0 H1 locs1 → Wr H H1 a (K.1.2 ci k) v → W p l e R s m args below meth c H1 locs1 cells slots Q (F0 m (pc + 3) ls rest)) : W p l e R s m args below meth c H locs cells slots Q (F0 m pc ls (v :: .ref a :: rest)) := by
  obtain ⟨hx, hb, hml, hown, hts, hK, hr, hlocks, hnm0⟩ := C
  have hap := x_apart hK hts hin ty0 hty hnm hc
  obtain ⟨cell, h1, h2, h3, h4⟩ := hT.at hG hs
  obtain ⟨v0, q1, -⟩ := h4 k _ hf
  obtain ⟨hS, hfc, kC, hkC, hkind⟩ := hK.1.1 ci _ hc
  obtain ⟨cf, kf, fi, fd, hi, hsl⟩ := hS k hk
  have hlay := hts _ (hin _ (u_in_lay hk))
  unfold u_lay at hlay
  rw [if_neg (by rw [hfin]; decide)] at hlay
  have h6 := u_store hfc hkC hkind hlay hi (hty k hk) hn1 hn2
  refine W.putK hx hb (f := fd) ⟨hown, hts _ hw, ⟨_, _, _, hi⟩, (u_facts hfc hkC (u_lays hts hin hk) hi).1⟩ (by rw [h2]; exact h6) h1 h3 (by rw [hsl]; exact k2_hasslot q1) rfl rfl hd fun H' e1 e2 e3 => ?_
  rw [hsl] at e1 ⊢
  exact kk H' _ (hT.putF hG hs (by rw [hlen]; exact hap) hf hv h1 e1 e3) (hS0.put e2 e3 hA) ⟨e2, e3, fV_at e1 (Cell.slots_setSlot_self _ (k2_hasslot q1)), fun j hj => fV_setne h1 e1 hj⟩
/-! arrays -/
theorem x_arr {U : State} (hK : KT K U) {ti : Nat} {ty : FieldType} (ht : (tyL K.2.1)[ti]? = some (K.2.1 ti, ty)) {cell : Cell} (h1 : cell.cls = K.2.1 ti) (h2 : cell.vm = .none) : U.isArrayOf cell ty := by
  obtain ⟨-, kA, hkA, comp, hk⟩ := (hK.1.2 ti _ ht).1 0 (fun _ => .null)
  exact ⟨(fun q h => by rw [h2] at h; cases h), kA, (by rw [h1]; exact hkA), comp, hk⟩
theorem x_in {j : Int32} {N : Nat} (h0 : 0 ≤ j.toInt) (h1 : j.toInt < N) : ¬ (j < 0 ∨ N ≤ j.toNatClampNeg) ∧ j.toNatClampNeg < N := by
  have := vp_in_iff.mpr ⟨h0, h1⟩
  exact ⟨this, Nat.not_le.mp fun q => this (Or.inr q)⟩
theorem x_iald (C : CX p K s m args meth c own b n r nm) (hT : TY K G H) {a t N : Nat} {lo hi : Int} {j : Int32} (hG : G a = some t) (hs : rgT[t]? = some (.inr (0, N, (0, lo, hi)))) (h0 : 0 ≤ j.toInt) (h1 : j.toInt < N) (hd : decode b pc = .ok (.iaload, 1))
    (kk : lo ≤ (fI H a j.toNatClampNeg).toInt ∧ (fI H a j.toNatClampNeg).toInt ≤ hi → W p l e R s m args below meth c H locs cells slots Q (F0 m (pc + 1) ls (.int (fI H a j.toNatClampNeg) :: rest))) : W p l e R s m args below meth c H locs cells slots Q (F0 m pc ls (.int j :: .ref a :: rest)) := by
  obtain ⟨hx, hb, hml, hown, hts, hK, hr, hlocks, hnm⟩ := C
  obtain ⟨i1, i2⟩ := x_in h0 h1
  obtain ⟨cell, q1, q2, q3, q4, q5, q6, q7⟩ := hT.aint hG hs i2
  exact W.iald hx hb q1 (x_arr hK (ti := 0) rfl q3 q2) (by rw [q2]; exact fun h => by cases h) (by rw [q4]; exact i1) q5 rfl rfl hd (kk ⟨q6, q7⟩)
theorem x_iast (C : CX p K s m args meth c own b n r nm) (hT : TY K G H) (hS0 : va_S A H0 H locs) {a t N : Nat} {lo hi : Int} {j x : Int32} (hG : G a = some t) (hs : rgT[t]? = some (.inr (0, N, (0, lo, hi)))) (h0 : 0 ≤ j.toInt) (h1 : j.toInt < N) (hv : lo ≤ x.toInt ∧ x.toInt ≤ hi) (hA : A a) (hd : decode b pc = .ok (.iastore, 1))
    (kk : ∀ (H1 : Heap) (locs1 : List Loc), TY K G H1 → va_S A H0 H1 locs1 → Wr H H1 a j.toNatClampNeg (.int x) → W p l e R s m args below meth c H1 locs1 cells slots Q (F0 m (pc + 1) ls rest)) : W p l e R s m args below meth c H locs cells slots Q (F0 m pc ls (.int x :: .int j :: .ref a :: rest)) := by
  obtain ⟨hx, hb, hml, hown, hts, hK, hr, hlocks, hnm⟩ := C
  obtain ⟨i1, i2⟩ := x_in h0 h1
  obtain ⟨cell, q1, q2, q3, q4, q5, q6, q7⟩ := hT.aint hG hs i2
  refine W.iast hx hb q1 (x_arr hK (ti := 0) rfl q3 q2) (by rw [q2]; exact fun h => by cases h) (by rw [q4]; exact i1) rfl rfl hd fun H1 e1 e2 e3 => ?_
  exact kk H1 _ (hT.putA hG hs i2 ⟨x, rfl, hv.1, hv.2⟩ q1 e1 e3) (hS0.put e2 e3 hA) ⟨e2, e3, fV_at e1 (Cell.slots_setSlot_self _ (k2_hasslot q5)), fun j hj => fV_setne q1 e1 hj⟩
theorem x_aald (C : CX p K s m args meth c own b n r nm) (hT : TY K G H) {a t ti N : Nat} {cc bb : Int} {j : Int32} {ty : FieldType} (ht : (tyL K.2.1)[ti]? = some (K.2.1 ti, ty)) (hty : ty.isReference = true) (hG : G a = some t) (hs : rgT[t]? = some (.inr (ti, N, (2, cc, bb)))) (h0 : 0 ≤ j.toInt) (h1 : j.toInt < N) (hd : decode b pc = .ok (.aaload, 1))
    (kk : G (fR H a j.toNatClampNeg) = some cc.toNat → W p l e R s m args below meth c H locs cells slots Q (F0 m (pc + 1) ls (.ref (fR H a j.toNatClampNeg) :: rest))) : W p l e R s m args below meth c H locs cells slots Q (F0 m pc ls (.int j :: .ref a :: rest)) := by
  obtain ⟨hx, hb, hml, hown, hts, hK, hr, hlocks, hnm⟩ := C
  obtain ⟨i1, i2⟩ := x_in h0 h1
  obtain ⟨cell, q1, q2, q3, q4, q5, q6⟩ := hT.aref hG hs i2
  exact W.aald hx hb q1 (x_arr hK ht q3 q2) hty (by rw [q2]; exact fun h => by cases h) (by rw [q4]; exact i1) q5 rfl rfl hd (kk q6)
theorem x_alen (C : CX p K s m args meth c own b n r nm) (hT : TY K G H) {a t ti N : Nat} {f : FT} {v : Int32} {ty : FieldType} (ht : (tyL K.2.1)[ti]? = some (K.2.1 ti, ty)) (hG : G a = some t) (hs : rgT[t]? = some (.inr (ti, N, f))) (hv : Int32.ofNat N = v) (hd : decode b pc = .ok (.arraylength, 1))
    (kk : W p l e R s m args below meth c H locs cells slots Q (F0 m (pc + 1) ls (.int v :: rest))) : W p l e R s m args below meth c H locs cells slots Q (F0 m pc ls (.ref a :: rest)) := by
  obtain ⟨hx, hb, hml, hown, hts, hK, hr, hlocks, hnm⟩ := C
  obtain ⟨cell, q1, q2, q3, q4⟩ := hT.alen hG hs
  exact W.alen hx hb q1 (x_arr hK ht q3 q2) (by rw [q4]; exact hv) rfl rfl hd kk
/-! calls -/
theorem x_go {a : Array Value} (hr : va_Run p l e R s m args below meth c H locs cells slots mc ms (F0 m pc ls st) rest (QX post A1 a) A1) (hS : va_S A0 H0 H locs) (hA : ∀ q, A1 q → A0 q)
    (kk : ∀ (v : Option Value) (H1 : Heap) (locs1 : List Loc), post v H1 → H.size ≤ H1.size → (∀ q : Nat, q < H.size → ¬ A1 q → H1[q]? = H[q]?) → va_S A0 H0 H1 locs1 → W p l e R s m args below meth c H1 locs1 (cells + mc) (slots + ms) Q (F0 m (pc + 3) ls (v.toList ++ rest))) : W p l e R s m args below meth c H locs cells slots Q (F0 m pc ls st) := by
  intro T hT X
  obtain ⟨v, st₀, t, T', L, h0, X', hL, e1, e2, ⟨v', hv, hp, hz, hk⟩, stp⟩ := hr T hT X
  cases hv
  rw [h0] at hz hk
  obtain ⟨t2, a1, b1⟩ := kk v T'.heap (locs ++ L) (by rw [e1]; exact hp) (by rw [e1]; exact hz) (fun q h1 h2 => by rw [e1]; exact hk q h1 h2)
    ⟨Nat.le_trans hS.1 (by rw [e1]; exact hz), fun q h1 h2 => by rw [e1, hk q (Nat.lt_of_lt_of_le h1 hS.1) (fun z => h2 (hA q z))]; exact hS.2.1 q h1 h2, fun q hq => by
      rcases List.mem_append.mp hq with h | h
      · exact hS.2.2 q h
      · exact hA _ (hL q h)⟩ T' rfl X'
  exact ⟨t2, stp t2 a1, b1⟩
/-- a method's own facts -/
def YV (y : MethodName) (b2 : ByteArray) (n2 : Nat) (r2 : Option FieldType) (np : Nat) : Prop := Cond.instanceMethod y ∈ okW ∧ Cond.selects y.cls y y ∈ okW ∧ Cond.initialized y.cls ∈ okW ∧ Cond.code y b2 n2 r2 ∈ okW ∧ y.cls ≠ "java/lang/invoke/MethodHandle" ∧ y.cls ≠ "java/lang/invoke/VarHandle" ∧ (parseMethodDescriptor y.desc).map (fun d => d.parameters.length) = some np
def YS (y : MethodName) (b2 : ByteArray) (n2 : Nat) (r2 : Option FieldType) (np : Nat) : Prop := Cond.static y ∈ okW ∧ Cond.initialized y.cls ∈ okW ∧ Cond.code y b2 n2 r2 ∈ okW ∧ y.cls ≠ "java/lang/invoke/MethodHandle" ∧ y.cls ≠ "java/lang/invoke/VarHandle" ∧ (parseMethodDescriptor y.desc).map (fun d => d.parameters.length) = some np
def YI (y : MethodName) (b2 : ByteArray) (n2 : Nat) (np : Nat) : Prop := Cond.instanceMethod y ∈ okW ∧ Cond.initialized y.cls ∈ okW ∧ Cond.code y b2 n2 none ∈ okW ∧ y.cls ≠ "java/lang/invoke/MethodHandle" ∧ y.cls ≠ "java/lang/invoke/VarHandle" ∧ (parseMethodDescriptor y.desc).map (fun d => d.parameters.length) = some np
theorem x_blind {av : List Value} {H0 : Heap} : FrameBlind (va_Pc av (fun U => U.heap = H0 ∧ KT K U)) := fun a U g mk q => ⟨q.1, q.2.1, KT.same (u := U) (U := U.calling g mk a) rfl q.2.2⟩
theorem x_callB {y : MethodName} {b2 : ByteArray} {n2 : Nat} {r2 : Option FieldType} {fr lo mc ms np idx : Nat} (hts : ∀ w ∈ okW, w.before args s = true) (hcode : Cond.code y b2 n2 r2 ∈ okW) (hini : Cond.initialized y.cls ∈ okW) (hy : y.cls ≠ "java/lang/invoke/MethodHandle" ∧ y.cls ≠ "java/lang/invoke/VarHandle" ∧ (parseMethodDescriptor y.desc).map (fun d => d.parameters.length) = some np) (hw : Cond.methodLink own idx y ∈ okW) (hR : fr + 1 ≤ R.frames ∧ 8 + (n2 + 11) + lo ≤ R.locals) : CallB R s args own idx y b2 n2 r2 (wsY y b2 n2 r2) { frames := fr, cells := mc, slots := ms, locals := lo } mc ms np :=
  callB_of np hts (good_ws (fun _ h => h) hcode) rfl rfl rfl (hts _ hini) (hts _ hw) hy hR
theorem x_V (C : CX p K s m args meth c own b n r nm) {y : MethodName} {b2 : ByteArray} {n2 : Nat} {r2 : Option FieldType} {fr lo np idx a : Nat} {As : List Value} (hM : MX l K y b2 n2 r2 fr lo mc ms (.ref a :: As) H A1 post) (hY : YV y b2 n2 r2 np) (hw : Cond.methodLink own idx y ∈ okW)
    (hR : (fr + 1 ≤ R.frames ∧ 8 + (n2 + 11) + lo ≤ R.locals) ∧ cells + mc ≤ R.cells ∧ slots + ms ≤ R.slots) (hrecv : ∃ cell : Cell, H[a]? = some cell ∧ cell.vm.isStatics = false ∧ s.vm.findClass y.cls = some cell.cls) (hn : As.length = np) (hsz : ls.size = n) (hst : st = As.reverse ++ .ref a :: rest) (hrm : (rest.map fun v => v.category).sum ≤ 8) (hd : decode b pc = .ok (.invokevirtual idx, 3)) (hS : va_S A0 H0 H locs) (hA : ∀ q, A1 q → A0 q)
    (kk : ∀ (v : Option Value) (H1 : Heap) (locs1 : List Loc), post v H1 → H.size ≤ H1.size → (∀ q : Nat, q < H.size → ¬ A1 q → H1[q]? = H[q]?) → va_S A0 H0 H1 locs1 → W p l e R s m args below meth c H1 locs1 (cells + mc) (slots + ms) Q (F0 m (pc + 3) ls (v.toList ++ rest))) : W p l e R s m args below meth c H locs cells slots Q (F0 m pc ls st) := by
  obtain ⟨hx, hb, hml, hown, hts, hK, hr, hlocks, hnm⟩ := C
  obtain ⟨y1, y2, y3, y4, y5⟩ := hY
  subst hst
  exact x_go (va_runV (As := As) (rest := rest) ⟨hx, hb, hml, hown, hts⟩ hM ⟨x_callB (mc := mc) (ms := ms) hts y4 y3 y5 hw hR.1, hts _ y1, hts _ y2⟩ ⟨x_blind, hrecv, fun U hU hW => ⟨rfl, hU, hK.warm hW⟩⟩ rfl hn hsz rfl (lv_room hrm) hd hR.2) hS hA kk
theorem x_S (C : CX p K s m args meth c own b n r nm) {y : MethodName} {b2 : ByteArray} {n2 : Nat} {r2 : Option FieldType} {fr lo np idx : Nat} {As : List Value} (hM : MX l K y b2 n2 r2 fr lo mc ms As H A1 post) (hY : YS y b2 n2 r2 np) (hw : Cond.methodLink own idx y ∈ okW)
    (hR : (fr + 1 ≤ R.frames ∧ 8 + (n2 + 11) + lo ≤ R.locals) ∧ cells + mc ≤ R.cells ∧ slots + ms ≤ R.slots) (hn : As.length = np) (hsz : ls.size = n) (hst : st = As.reverse ++ rest) (hrm : (rest.map fun v => v.category).sum ≤ 8) (hd : decode b pc = .ok (.invokestatic idx, 3)) (hS : va_S A0 H0 H locs) (hA : ∀ q, A1 q → A0 q)
    (kk : ∀ (v : Option Value) (H1 : Heap) (locs1 : List Loc), post v H1 → H.size ≤ H1.size → (∀ q : Nat, q < H.size → ¬ A1 q → H1[q]? = H[q]?) → va_S A0 H0 H1 locs1 → W p l e R s m args below meth c H1 locs1 (cells + mc) (slots + ms) Q (F0 m (pc + 3) ls (v.toList ++ rest))) : W p l e R s m args below meth c H locs cells slots Q (F0 m pc ls st) := by
  obtain ⟨hx, hb, hml, hown, hts, hK, hr, hlocks, hnm⟩ := C
  obtain ⟨y1, y3, y4, y5⟩ := hY
  subst hst
  exact x_go (va_runS (As := As) (rest := rest) ⟨hx, hb, hml, hown, hts⟩ hM ⟨x_callB (mc := mc) (ms := ms) hts y4 y3 y5 hw hR.1, hts _ y1⟩ ⟨x_blind, fun U hU hW => ⟨rfl, hU, hK.warm hW⟩⟩ rfl hn hsz rfl (lv_room hrm) hd hR.2) hS hA kk
theorem x_I (C : CX p K s m args meth c own b n r nm) {y : MethodName} {b2 : ByteArray} {n2 : Nat} {fr lo np idx a : Nat} {As : List Value} (hM : MX l K y b2 n2 none fr lo mc ms (.ref a :: As) H A1 post) (hY : YI y b2 n2 np) (hy1 : y.name = "<init>") (hw : Cond.methodLink own idx y ∈ okW)
    (hR : (fr + 1 ≤ R.frames ∧ 8 + (n2 + 11) + lo ≤ R.locals) ∧ cells + mc ≤ R.cells ∧ slots + ms ≤ R.slots) (hn : As.length = np) (hsz : ls.size = n) (hst : st = As.reverse ++ .ref a :: rest) (hrm : (rest.map fun v => v.category).sum ≤ 8) (hd : decode b pc = .ok (.invokespecial idx, 3)) (hS : va_S A0 H0 H locs) (hA : ∀ q, A1 q → A0 q)
    (kk : ∀ (v : Option Value) (H1 : Heap) (locs1 : List Loc), post v H1 → H.size ≤ H1.size → (∀ q : Nat, q < H.size → ¬ A1 q → H1[q]? = H[q]?) → va_S A0 H0 H1 locs1 → W p l e R s m args below meth c H1 locs1 (cells + mc) (slots + ms) Q (F0 m (pc + 3) ls (v.toList ++ rest))) : W p l e R s m args below meth c H locs cells slots Q (F0 m pc ls st) := by
  obtain ⟨hx, hb, hml, hown, hts, hK, hr, hlocks, hnm⟩ := C
  obtain ⟨y1, y3, y4, y5⟩ := hY
  subst hst
  exact x_go (va_runI (As := As) (rest := rest) ⟨hx, hb, hml, hown, hts⟩ hM ⟨x_callB (mc := mc) (ms := ms) hts y4 y3 y5 hw hR.1, hy1, hts _ y1⟩ ⟨x_blind, fun U hU hW => ⟨rfl, hU, hK.warm hW⟩⟩ rfl hn hsz rfl (lv_room hrm) hd hR.2) hS hA kk
theorem x_callN {y : MethodName} {host : String} {b2 : ByteArray} {n2 : Nat} {r2 : Option FieldType} {fr lo mc ms np idx : Nat} (hts : ∀ w ∈ okW, w.before args s = true) (hK : KT K s) (hcode : Cond.code y b2 n2 r2 ∈ okW) (hini : Cond.initialized y.cls ∈ okW) (hy : y.cls ≠ "java/lang/invoke/MethodHandle" ∧ y.cls ≠ "java/lang/invoke/VarHandle" ∧ (parseMethodDescriptor y.desc).map (fun d => d.parameters.length) = some np) (hw : Cond.methodLinkNest own idx y host ∈ nwl) (hR : fr + 1 ≤ R.frames ∧ 8 + (n2 + 11) + lo ≤ R.locals) : va_CN R s args own idx y host b2 n2 r2 (wsY y b2 n2 r2) { frames := fr, cells := mc, slots := ms, locals := lo } mc ms np :=
  va_cnB np hts (good_ws (fun _ h => h) hcode) rfl rfl rfl (hK.2.1 _ hw) (hts _ hini) hy hR
theorem x_SN (C : CX p K s m args meth c own b n r nm) {y : MethodName} {host : String} {b2 : ByteArray} {n2 : Nat} {r2 : Option FieldType} {fr lo np idx : Nat} {As : List Value} (hM : MX l K y b2 n2 r2 fr lo mc ms As H A1 post) (hY : YS y b2 n2 r2 np) (hw : Cond.methodLinkNest own idx y host ∈ nwl)
    (hR : (fr + 1 ≤ R.frames ∧ 8 + (n2 + 11) + lo ≤ R.locals) ∧ cells + mc ≤ R.cells ∧ slots + ms ≤ R.slots) (hn : As.length = np) (hsz : ls.size = n) (hst : st = As.reverse ++ rest) (hrm : (rest.map fun v => v.category).sum ≤ 8) (hd : decode b pc = .ok (.invokestatic idx, 3)) (hS : va_S A0 H0 H locs) (hA : ∀ q, A1 q → A0 q)
    (kk : ∀ (v : Option Value) (H1 : Heap) (locs1 : List Loc), post v H1 → H.size ≤ H1.size → (∀ q : Nat, q < H.size → ¬ A1 q → H1[q]? = H[q]?) → va_S A0 H0 H1 locs1 → W p l e R s m args below meth c H1 locs1 (cells + mc) (slots + ms) Q (F0 m (pc + 3) ls (v.toList ++ rest))) : W p l e R s m args below meth c H locs cells slots Q (F0 m pc ls st) := by
  obtain ⟨hx, hb, hml, hown, hts, hK, hr, hlocks, hnm⟩ := C
  obtain ⟨y1, y3, y4, y5⟩ := hY
  subst hst
  exact x_go (va_runSN (As := As) (rest := rest) ⟨hx, hb, hml, hown, hts⟩ hM ⟨x_callN (mc := mc) (ms := ms) hts hK y4 y3 y5 hw hR.1, hts _ y1, trivial⟩ ⟨x_blind, fun U hU hW => ⟨rfl, hU, hK.warm hW⟩⟩ rfl hn hsz rfl (lv_room hrm) hd hR.2) hS hA kk
theorem x_IN (C : CX p K s m args meth c own b n r nm) {y : MethodName} {host : String} {b2 : ByteArray} {n2 : Nat} {fr lo np idx a : Nat} {As : List Value} (hM : MX l K y b2 n2 none fr lo mc ms (.ref a :: As) H A1 post) (hY : YI y b2 n2 np) (hy1 : y.name = "<init>") (hw : Cond.methodLinkNest own idx y host ∈ nwl)
    (hR : (fr + 1 ≤ R.frames ∧ 8 + (n2 + 11) + lo ≤ R.locals) ∧ cells + mc ≤ R.cells ∧ slots + ms ≤ R.slots) (hn : As.length = np) (hsz : ls.size = n) (hst : st = As.reverse ++ .ref a :: rest) (hrm : (rest.map fun v => v.category).sum ≤ 8) (hd : decode b pc = .ok (.invokespecial idx, 3)) (hS : va_S A0 H0 H locs) (hA : ∀ q, A1 q → A0 q)
    (kk : ∀ (v : Option Value) (H1 : Heap) (locs1 : List Loc), post v H1 → H.size ≤ H1.size → (∀ q : Nat, q < H.size → ¬ A1 q → H1[q]? = H[q]?) → va_S A0 H0 H1 locs1 → W p l e R s m args below meth c H1 locs1 (cells + mc) (slots + ms) Q (F0 m (pc + 3) ls (v.toList ++ rest))) : W p l e R s m args below meth c H locs cells slots Q (F0 m pc ls st) := by
  obtain ⟨hx, hb, hml, hown, hts, hK, hr, hlocks, hnm⟩ := C
  obtain ⟨y1, y3, y4, y5⟩ := hY
  subst hst
  exact x_go (va_runIN (As := As) (rest := rest) ⟨hx, hb, hml, hown, hts⟩ hM ⟨x_callN (mc := mc) (ms := ms) hts hK y4 y3 y5 hw hR.1, hy1, hts _ y1⟩ ⟨x_blind, fun U hU hW => ⟨rfl, hU, hK.warm hW⟩⟩ rfl hn hsz rfl (lv_room hrm) hd hR.2) hS hA kk
/-- the receiver of a call -/
theorem x_rv (C : CX p K s m args meth c own b n r nm) (hT : TY K G H) {a t ci N : Nat} {Cn : String} {T : u_T} {fs : List FT} (hc : vwCl[ci]? = some (Cn, T, N)) (hG : G a = some t) (hs : rgT[t]? = some (.inl (ci, fs))) : ∃ cell : Cell, H[a]? = some cell ∧ cell.vm.isStatics = false ∧ s.vm.findClass Cn = some cell.cls := by
  obtain ⟨hx, hb, hml, hown, hts, hK, hr, hlocks, hnm⟩ := C
  obtain ⟨cell, h1, h2, h3, -⟩ := hT.at hG hs
  exact ⟨cell, h1, by rw [h3]; rfl, by rw [h2]; exact (hK.1.1 ci _ hc).2.1⟩
end XR
end
section
theorem tb_1 {w : Cond} (h : w ∈ tables_1_1) : w ∈ lw_tbl := List.mem_append_right _ (show w ∈ tables_1 from List.mem_append_left _ h)
theorem tb_2 {w : Cond} (h : w ∈ tables_1_2) : w ∈ lw_tbl := List.mem_append_right _ (show w ∈ tables_1 from List.mem_append_right _ (List.mem_append_left _ h))
theorem tb_3 {w : Cond} (h : w ∈ tables_1_3) : w ∈ lw_tbl := List.mem_append_right _ (show w ∈ tables_1 from List.mem_append_right _ (List.mem_append_right _ (List.mem_append_left _ h)))
theorem tb_4 {w : Cond} (h : w ∈ tables_1_4) : w ∈ lw_tbl := List.mem_append_right _ (show w ∈ tables_1 from List.mem_append_right _ (List.mem_append_right _ (List.mem_append_right _ (List.mem_append_left _ h))))
theorem tb_5 {w : Cond} (h : w ∈ tables_1_5) : w ∈ lw_tbl := List.mem_append_right _ (show w ∈ tables_1 from List.mem_append_right _ (List.mem_append_right _ (List.mem_append_right _ (List.mem_append_right _ (List.mem_append_left _ h)))))
theorem tb_6 {w : Cond} (h : w ∈ tables_1_6) : w ∈ lw_tbl := List.mem_append_right _ (show w ∈ tables_1 from List.mem_append_right _ (List.mem_append_right _ (List.mem_append_right _ (List.mem_append_right _ (List.mem_append_right _ (List.mem_append_left _ h))))))
theorem tb_7 {w : Cond} (h : w ∈ tables_1_7) : w ∈ lw_tbl := List.mem_append_right _ (show w ∈ tables_1 from List.mem_append_right _ (List.mem_append_right _ (List.mem_append_right _ (List.mem_append_right _ (List.mem_append_right _ (List.mem_append_right _ (List.mem_append_left _ h)))))))
theorem tb_8 {w : Cond} (h : w ∈ tables_1_8) : w ∈ lw_tbl := List.mem_append_right _ (show w ∈ tables_1 from List.mem_append_right _ (List.mem_append_right _ (List.mem_append_right _ (List.mem_append_right _ (List.mem_append_right _ (List.mem_append_right _ (List.mem_append_right _ (h))))))))
theorem tp_1 {q : MethodName × Nat} (h : q ∈ lw_privs_1) : Cond.selects q.1.cls q.1 q.1 ∈ lw_tbl := List.mem_append_left _ (List.mem_map.mpr ⟨q, (show q ∈ lw_privs from List.mem_append_left _ h), rfl⟩)
theorem tp_2 {q : MethodName × Nat} (h : q ∈ lw_privs_2) : Cond.selects q.1.cls q.1 q.1 ∈ lw_tbl := List.mem_append_left _ (List.mem_map.mpr ⟨q, (show q ∈ lw_privs from List.mem_append_right _ (List.mem_append_left _ h)), rfl⟩)
theorem tp_3 {q : MethodName × Nat} (h : q ∈ lw_privs_3) : Cond.selects q.1.cls q.1 q.1 ∈ lw_tbl := List.mem_append_left _ (List.mem_map.mpr ⟨q, (show q ∈ lw_privs from List.mem_append_right _ (List.mem_append_right _ (List.mem_append_left _ h))), rfl⟩)
theorem tp_4 {q : MethodName × Nat} (h : q ∈ lw_privs_4) : Cond.selects q.1.cls q.1 q.1 ∈ lw_tbl := List.mem_append_left _ (List.mem_map.mpr ⟨q, (show q ∈ lw_privs from List.mem_append_right _ (List.mem_append_right _ (List.mem_append_right _ (List.mem_append_left _ h)))), rfl⟩)
theorem tp_5 {q : MethodName × Nat} (h : q ∈ lw_privs_5) : Cond.selects q.1.cls q.1 q.1 ∈ lw_tbl := List.mem_append_left _ (List.mem_map.mpr ⟨q, (show q ∈ lw_privs from List.mem_append_right _ (List.mem_append_right _ (List.mem_append_right _ (List.mem_append_right _ (List.mem_append_left _ h))))), rfl⟩)
theorem tp_6 {q : MethodName × Nat} (h : q ∈ lw_privs_6) : Cond.selects q.1.cls q.1 q.1 ∈ lw_tbl := List.mem_append_left _ (List.mem_map.mpr ⟨q, (show q ∈ lw_privs from List.mem_append_right _ (List.mem_append_right _ (List.mem_append_right _ (List.mem_append_right _ (List.mem_append_right _ (List.mem_append_left _ h)))))), rfl⟩)
theorem tp_7 {q : MethodName × Nat} (h : q ∈ lw_privs_7) : Cond.selects q.1.cls q.1 q.1 ∈ lw_tbl := List.mem_append_left _ (List.mem_map.mpr ⟨q, (show q ∈ lw_privs from List.mem_append_right _ (List.mem_append_right _ (List.mem_append_right _ (List.mem_append_right _ (List.mem_append_right _ (List.mem_append_right _ (List.mem_append_left _ h))))))), rfl⟩)
theorem tp_8 {q : MethodName × Nat} (h : q ∈ lw_privs_8) : Cond.selects q.1.cls q.1 q.1 ∈ lw_tbl := List.mem_append_left _ (List.mem_map.mpr ⟨q, (show q ∈ lw_privs from List.mem_append_right _ (List.mem_append_right _ (List.mem_append_right _ (List.mem_append_right _ (List.mem_append_right _ (List.mem_append_right _ (List.mem_append_right _ (h)))))))), rfl⟩)
theorem wIN_L : Cond.initialized RL ∈ okW := ok_of (tb_1 (List.mem_of_getElem? (i := 0) rfl)) rfl
theorem wIN_X9 : Cond.initialized RX9 ∈ okW := ok_of (tb_1 (List.mem_of_getElem? (i := 1) rfl)) rfl
theorem wIN_X8 : Cond.initialized RX8 ∈ okW := ok_of (tb_1 (List.mem_of_getElem? (i := 2) rfl)) rfl
theorem wIN_X0 : Cond.initialized RX0 ∈ okW := ok_of (tb_1 (List.mem_of_getElem? (i := 3) rfl)) rfl
theorem wIN_X7 : Cond.initialized RX7 ∈ okW := ok_of (tb_1 (List.mem_of_getElem? (i := 4) rfl)) rfl
theorem wIN_X4 : Cond.initialized RX4 ∈ okW := ok_of (tb_1 (List.mem_of_getElem? (i := 5) rfl)) rfl
theorem wIN_X6 : Cond.initialized RX6 ∈ okW := ok_of (tb_1 (List.mem_of_getElem? (i := 6) rfl)) rfl
theorem wIN_X3 : Cond.initialized RX3 ∈ okW := ok_of (tb_1 (List.mem_of_getElem? (i := 7) rfl)) rfl
theorem wIN_X2 : Cond.initialized RX2 ∈ okW := ok_of (tb_1 (List.mem_of_getElem? (i := 8) rfl)) rfl
theorem wIN_X1 : Cond.initialized RX1 ∈ okW := ok_of (tb_1 (List.mem_of_getElem? (i := 9) rfl)) rfl
theorem wIN_X5 : Cond.initialized RX5 ∈ okW := ok_of (tb_1 (List.mem_of_getElem? (i := 10) rfl)) rfl
theorem wIN_X10 : Cond.initialized RX10 ∈ okW := ok_of (tb_1 (List.mem_of_getElem? (i := 11) rfl)) rfl
theorem wIN_J7 : Cond.initialized RJ7 ∈ okW := ok_of (tb_1 (List.mem_of_getElem? (i := 12) rfl)) rfl
theorem wIN_J0 : Cond.initialized RJ0 ∈ okW := ok_of (tb_1 (List.mem_of_getElem? (i := 13) rfl)) rfl
theorem wIN_J1 : Cond.initialized RJ1 ∈ okW := ok_of (tb_1 (List.mem_of_getElem? (i := 14) rfl)) rfl
theorem wIN_J3 : Cond.initialized RJ3 ∈ okW := ok_of (tb_1 (List.mem_of_getElem? (i := 15) rfl)) rfl
theorem wIN_J2 : Cond.initialized RJ2 ∈ okW := ok_of (tb_1 (List.mem_of_getElem? (i := 16) rfl)) rfl
theorem wIN_J10 : Cond.initialized RJ10 ∈ okW := ok_of (tb_1 (List.mem_of_getElem? (i := 17) rfl)) rfl
theorem wIN_J9 : Cond.initialized RJ9 ∈ okW := ok_of (tb_1 (List.mem_of_getElem? (i := 18) rfl)) rfl
theorem wC_L_7 : Cond.classLink RL 7 RX9 ∈ okW := ok_of (tb_1 (List.mem_of_getElem? (i := 19) rfl)) rfl
theorem wIS_X9 : Cond.instantiable RX9 12 ∈ okW := ok_of (tb_1 (List.mem_of_getElem? (i := 20) rfl)) rfl
theorem wM_L_9 : Cond.methodLink RL 9 yX9_init ∈ okW := ok_of (tb_1 (List.mem_of_getElem? (i := 21) rfl)) rfl
theorem wIM_X9_init : Cond.instanceMethod yX9_init ∈ okW := ok_of (tb_1 (List.mem_of_getElem? (i := 22) rfl)) rfl
theorem wCD_X9_init : Cond.code yX9_init cX9_init 1 none ∈ okW := ok_of (tb_1 (List.mem_of_getElem? (i := 23) rfl)) rfl
theorem wM_X9_3 : Cond.methodLink RX9 3 objectInit ∈ okW := ok_of (tb_1 (List.mem_of_getElem? (i := 24) rfl)) rfl
theorem wIM_OBJ : Cond.instanceMethod objectInit ∈ okW := ok_of (tb_1 (List.mem_of_getElem? (i := 25) rfl)) rfl
theorem wCD_OBJ : Cond.code objectInit ⟨#[0xb1]⟩ 1 none ∈ okW := ok_of (tb_1 (List.mem_of_getElem? (i := 26) rfl)) rfl
theorem wC_X9_9 : Cond.classLink RX9 9 RX8 ∈ okW := ok_of (tb_1 (List.mem_of_getElem? (i := 27) rfl)) rfl
theorem wIS_X8 : Cond.instantiable RX8 17 ∈ okW := ok_of (tb_1 (List.mem_of_getElem? (i := 28) rfl)) rfl
theorem wM_X9_11 : Cond.methodLink RX9 11 yX8_init ∈ okW := ok_of (tb_1 (List.mem_of_getElem? (i := 29) rfl)) rfl
theorem wIM_X8_init : Cond.instanceMethod yX8_init ∈ okW := ok_of (tb_1 (List.mem_of_getElem? (i := 30) rfl)) rfl
theorem wCD_X8_init : Cond.code yX8_init cX8_init 2 none ∈ okW := ok_of (tb_1 (List.mem_of_getElem? (i := 31) rfl)) rfl
theorem wM_X8_3 : Cond.methodLink RX8 3 objectInit ∈ okW := ok_of (tb_1 (List.mem_of_getElem? (i := 32) rfl)) rfl
theorem wC_X8_9 : Cond.classLink RX8 9 RX0 ∈ okW := ok_of (tb_1 (List.mem_of_getElem? (i := 33) rfl)) rfl
theorem wC_X8_17 : Cond.classLink RX8 17 RX7 ∈ okW := ok_of (tb_1 (List.mem_of_getElem? (i := 35) rfl)) rfl
theorem wIS_X0 : Cond.instantiable RX0 18 ∈ okW := ok_of (tb_1 (List.mem_of_getElem? (i := 37) rfl)) rfl
theorem wIM_X0_init : Cond.instanceMethod yX0_init ∈ okW := ok_of (tb_1 (List.mem_of_getElem? (i := 39) rfl)) rfl
theorem wCD_X0_init : Cond.code yX0_init cX0_init 1 none ∈ okW := ok_of (tb_1 (List.mem_of_getElem? (i := 40) rfl)) rfl
theorem wM_X0_3 : Cond.methodLink RX0 3 objectInit ∈ okW := ok_of (tb_1 (List.mem_of_getElem? (i := 41) rfl)) rfl
theorem wC_X0_39 : Cond.classLink RX0 39 "[[I" ∈ okW := ok_of (tb_1 (List.mem_of_getElem? (i := 42) rfl)) rfl
theorem wF_X0_50 : Cond.fieldLink RX0 50 (TX0 0).1 (TX0 0).2.1 (TX0 0).2.2.1 ∈ okW := ok_of (tb_1 (List.mem_of_getElem? (i := 44) rfl)) rfl
theorem wF_X3_43 : Cond.fieldLink RX3 43 (TX0 0).1 (TX0 0).2.1 (TX0 0).2.2.1 ∈ okW := ok_of (tb_1 (List.mem_of_getElem? (i := 45) rfl)) rfl
theorem wF_X6_18 : Cond.fieldLink RX6 18 (TX0 0).1 (TX0 0).2.1 (TX0 0).2.2.1 ∈ okW := ok_of (tb_1 (List.mem_of_getElem? (i := 46) rfl)) rfl
theorem wF_X1_66 : Cond.fieldLink RX1 66 (TX0 0).1 (TX0 0).2.1 (TX0 0).2.2.1 ∈ okW := ok_of (tb_1 (List.mem_of_getElem? (i := 47) rfl)) rfl
theorem wF_X9_187 : Cond.fieldLink RX9 187 (TX0 0).1 (TX0 0).2.1 (TX0 0).2.2.1 ∈ okW := ok_of (tb_1 (List.mem_of_getElem? (i := 48) rfl)) rfl
theorem wF_X0_9 : Cond.fieldLink RX0 9 (TX0 1).1 (TX0 1).2.1 (TX0 1).2.2.1 ∈ okW := ok_of (tb_1 (List.mem_of_getElem? (i := 49) rfl)) rfl
theorem wF_X3_63 : Cond.fieldLink RX3 63 (TX0 1).1 (TX0 1).2.1 (TX0 1).2.2.1 ∈ okW := ok_of (tb_1 (List.mem_of_getElem? (i := 50) rfl)) rfl
theorem wF_X9_93 : Cond.fieldLink RX9 93 (TX0 1).1 (TX0 1).2.1 (TX0 1).2.2.1 ∈ okW := ok_of (tb_1 (List.mem_of_getElem? (i := 51) rfl)) rfl
theorem wF_X6_85 : Cond.fieldLink RX6 85 (TX0 1).1 (TX0 1).2.1 (TX0 1).2.2.1 ∈ okW := ok_of (tb_1 (List.mem_of_getElem? (i := 52) rfl)) rfl
theorem wF_X1_108 : Cond.fieldLink RX1 108 (TX0 1).1 (TX0 1).2.1 (TX0 1).2.2.1 ∈ okW := ok_of (tb_1 (List.mem_of_getElem? (i := 53) rfl)) rfl
theorem wF_X0_15 : Cond.fieldLink RX0 15 (TX0 2).1 (TX0 2).2.1 (TX0 2).2.2.1 ∈ okW := ok_of (tb_1 (List.mem_of_getElem? (i := 54) rfl)) rfl
theorem wF_X3_66 : Cond.fieldLink RX3 66 (TX0 2).1 (TX0 2).2.1 (TX0 2).2.2.1 ∈ okW := ok_of (tb_1 (List.mem_of_getElem? (i := 55) rfl)) rfl
theorem wF_X9_96 : Cond.fieldLink RX9 96 (TX0 2).1 (TX0 2).2.1 (TX0 2).2.2.1 ∈ okW := ok_of (tb_1 (List.mem_of_getElem? (i := 56) rfl)) rfl
theorem wF_X6_88 : Cond.fieldLink RX6 88 (TX0 2).1 (TX0 2).2.1 (TX0 2).2.2.1 ∈ okW := ok_of (tb_1 (List.mem_of_getElem? (i := 57) rfl)) rfl
theorem wF_X0_18 : Cond.fieldLink RX0 18 (TX0 3).1 (TX0 3).2.1 (TX0 3).2.2.1 ∈ okW := ok_of (tb_1 (List.mem_of_getElem? (i := 58) rfl)) rfl
theorem wF_X6_34 : Cond.fieldLink RX6 34 (TX0 3).1 (TX0 3).2.1 (TX0 3).2.2.1 ∈ okW := ok_of (tb_1 (List.mem_of_getElem? (i := 59) rfl)) rfl
theorem wF_X9_99 : Cond.fieldLink RX9 99 (TX0 3).1 (TX0 3).2.1 (TX0 3).2.2.1 ∈ okW := ok_of (tb_1 (List.mem_of_getElem? (i := 60) rfl)) rfl
theorem wF_X0_21 : Cond.fieldLink RX0 21 (TX0 4).1 (TX0 4).2.1 (TX0 4).2.2.1 ∈ okW := ok_of (tb_1 (List.mem_of_getElem? (i := 61) rfl)) rfl
theorem wF_X3_69 : Cond.fieldLink RX3 69 (TX0 4).1 (TX0 4).2.1 (TX0 4).2.2.1 ∈ okW := ok_of (tb_1 (List.mem_of_getElem? (i := 62) rfl)) rfl
theorem wF_X9_102 : Cond.fieldLink RX9 102 (TX0 4).1 (TX0 4).2.1 (TX0 4).2.2.1 ∈ okW := ok_of (tb_1 (List.mem_of_getElem? (i := 63) rfl)) rfl
theorem wF_X6_91 : Cond.fieldLink RX6 91 (TX0 4).1 (TX0 4).2.1 (TX0 4).2.2.1 ∈ okW := ok_of (tb_1 (List.mem_of_getElem? (i := 64) rfl)) rfl
theorem wF_X1_119 : Cond.fieldLink RX1 119 (TX0 4).1 (TX0 4).2.1 (TX0 4).2.2.1 ∈ okW := ok_of (tb_1 (List.mem_of_getElem? (i := 65) rfl)) rfl
theorem wF_X0_24 : Cond.fieldLink RX0 24 (TX0 5).1 (TX0 5).2.1 (TX0 5).2.2.1 ∈ okW := ok_of (tb_1 (List.mem_of_getElem? (i := 66) rfl)) rfl
theorem wF_X3_62 : Cond.fieldLink RX3 62 (TX0 5).1 (TX0 5).2.1 (TX0 5).2.2.1 ∈ okW := ok_of (tb_1 (List.mem_of_getElem? (i := 67) rfl)) rfl
theorem wF_X9_181 : Cond.fieldLink RX9 181 (TX0 5).1 (TX0 5).2.1 (TX0 5).2.2.1 ∈ okW := ok_of (tb_1 (List.mem_of_getElem? (i := 68) rfl)) rfl
theorem wF_X0_27 : Cond.fieldLink RX0 27 (TX0 6).1 (TX0 6).2.1 (TX0 6).2.2.1 ∈ okW := ok_of (tb_1 (List.mem_of_getElem? (i := 69) rfl)) rfl
theorem wF_X9_174 : Cond.fieldLink RX9 174 (TX0 6).1 (TX0 6).2.1 (TX0 6).2.2.1 ∈ okW := ok_of (tb_1 (List.mem_of_getElem? (i := 70) rfl)) rfl
theorem wF_X0_30 : Cond.fieldLink RX0 30 (TX0 7).1 (TX0 7).2.1 (TX0 7).2.2.1 ∈ okW := ok_of (tb_1 (List.mem_of_getElem? (i := 71) rfl)) rfl
theorem wF_X9_177 : Cond.fieldLink RX9 177 (TX0 7).1 (TX0 7).2.1 (TX0 7).2.2.1 ∈ okW := ok_of (tb_1 (List.mem_of_getElem? (i := 72) rfl)) rfl
theorem wF_X0_60 : Cond.fieldLink RX0 60 (TX0 8).1 (TX0 8).2.1 (TX0 8).2.2.1 ∈ okW := ok_of (tb_1 (List.mem_of_getElem? (i := 73) rfl)) rfl
theorem wF_X9_86 : Cond.fieldLink RX9 86 (TX0 8).1 (TX0 8).2.1 (TX0 8).2.2.1 ∈ okW := ok_of (tb_1 (List.mem_of_getElem? (i := 74) rfl)) rfl
theorem wF_X0_63 : Cond.fieldLink RX0 63 (TX0 9).1 (TX0 9).2.1 (TX0 9).2.2.1 ∈ okW := ok_of (tb_1 (List.mem_of_getElem? (i := 75) rfl)) rfl
theorem wF_X9_197 : Cond.fieldLink RX9 197 (TX0 9).1 (TX0 9).2.1 (TX0 9).2.2.1 ∈ okW := ok_of (tb_1 (List.mem_of_getElem? (i := 76) rfl)) rfl
theorem wF_X0_33 : Cond.fieldLink RX0 33 (TX0 10).1 (TX0 10).2.1 (TX0 10).2.2.1 ∈ okW := ok_of (tb_1 (List.mem_of_getElem? (i := 77) rfl)) rfl
theorem wF_X1_52 : Cond.fieldLink RX1 52 (TX0 10).1 (TX0 10).2.1 (TX0 10).2.2.1 ∈ okW := ok_of (tb_1 (List.mem_of_getElem? (i := 78) rfl)) rfl
theorem wF_X9_398 : Cond.fieldLink RX9 398 (TX0 10).1 (TX0 10).2.1 (TX0 10).2.2.1 ∈ okW := ok_of (tb_1 (List.mem_of_getElem? (i := 79) rfl)) rfl
theorem wF_X0_36 : Cond.fieldLink RX0 36 (TX0 11).1 (TX0 11).2.1 (TX0 11).2.2.1 ∈ okW := ok_of (tb_1 (List.mem_of_getElem? (i := 80) rfl)) rfl
theorem wF_X1_101 : Cond.fieldLink RX1 101 (TX0 11).1 (TX0 11).2.1 (TX0 11).2.2.1 ∈ okW := ok_of (tb_1 (List.mem_of_getElem? (i := 81) rfl)) rfl
theorem wF_X9_408 : Cond.fieldLink RX9 408 (TX0 11).1 (TX0 11).2.1 (TX0 11).2.2.1 ∈ okW := ok_of (tb_1 (List.mem_of_getElem? (i := 82) rfl)) rfl
theorem wF_X0_41 : Cond.fieldLink RX0 41 (TX0 12).1 (TX0 12).2.1 (TX0 12).2.2.1 ∈ okW := ok_of (tb_1 (List.mem_of_getElem? (i := 83) rfl)) rfl
theorem wF_X1_55 : Cond.fieldLink RX1 55 (TX0 12).1 (TX0 12).2.1 (TX0 12).2.2.1 ∈ okW := ok_of (tb_1 (List.mem_of_getElem? (i := 84) rfl)) rfl
theorem wF_X9_401 : Cond.fieldLink RX9 401 (TX0 12).1 (TX0 12).2.1 (TX0 12).2.2.1 ∈ okW := ok_of (tb_1 (List.mem_of_getElem? (i := 85) rfl)) rfl
theorem wF_X0_44 : Cond.fieldLink RX0 44 (TX0 13).1 (TX0 13).2.1 (TX0 13).2.2.1 ∈ okW := ok_of (tb_1 (List.mem_of_getElem? (i := 86) rfl)) rfl
theorem wF_X1_59 : Cond.fieldLink RX1 59 (TX0 13).1 (TX0 13).2.1 (TX0 13).2.2.1 ∈ okW := ok_of (tb_1 (List.mem_of_getElem? (i := 87) rfl)) rfl
theorem wF_X9_405 : Cond.fieldLink RX9 405 (TX0 13).1 (TX0 13).2.1 (TX0 13).2.2.1 ∈ okW := ok_of (tb_1 (List.mem_of_getElem? (i := 88) rfl)) rfl
theorem wF_X1_47 : Cond.fieldLink RX1 47 (TX0 14).1 (TX0 14).2.1 (TX0 14).2.2.1 ∈ okW := ok_of (tb_1 (List.mem_of_getElem? (i := 89) rfl)) rfl
theorem wF_X0_66 : Cond.fieldLink RX0 66 (TX0 14).1 (TX0 14).2.1 (TX0 14).2.2.1 ∈ okW := ok_of (tb_1 (List.mem_of_getElem? (i := 90) rfl)) rfl
theorem wF_X9_200 : Cond.fieldLink RX9 200 (TX0 14).1 (TX0 14).2.1 (TX0 14).2.2.1 ∈ okW := ok_of (tb_1 (List.mem_of_getElem? (i := 91) rfl)) rfl
theorem wF_X0_69 : Cond.fieldLink RX0 69 (TX0 15).1 (TX0 15).2.1 (TX0 15).2.2.1 ∈ okW := ok_of (tb_1 (List.mem_of_getElem? (i := 92) rfl)) rfl
theorem wF_X9_266 : Cond.fieldLink RX9 266 (TX0 15).1 (TX0 15).2.1 (TX0 15).2.2.1 ∈ okW := ok_of (tb_1 (List.mem_of_getElem? (i := 93) rfl)) rfl
theorem wF_X0_72 : Cond.fieldLink RX0 72 (TX0 16).1 (TX0 16).2.1 (TX0 16).2.2.1 ∈ okW := ok_of (tb_1 (List.mem_of_getElem? (i := 94) rfl)) rfl
theorem wF_X9_269 : Cond.fieldLink RX9 269 (TX0 16).1 (TX0 16).2.1 (TX0 16).2.2.1 ∈ okW := ok_of (tb_1 (List.mem_of_getElem? (i := 95) rfl)) rfl
theorem wF_X0_47 : Cond.fieldLink RX0 47 (TX0 17).1 (TX0 17).2.1 (TX0 17).2.2.1 ∈ okW := ok_of (tb_1 (List.mem_of_getElem? (i := 96) rfl)) rfl
theorem wF_X9_272 : Cond.fieldLink RX9 272 (TX0 17).1 (TX0 17).2.1 (TX0 17).2.2.1 ∈ okW := ok_of (tb_1 (List.mem_of_getElem? (i := 97) rfl)) rfl
theorem wLY_0_0 : u_lay RX0 TX0 0 ∈ okW := ok_of (tb_1 (List.mem_of_getElem? (i := 98) rfl)) rfl
theorem wLY_0_1 : u_lay RX0 TX0 1 ∈ okW := ok_of (tb_1 (List.mem_of_getElem? (i := 100) rfl)) rfl
theorem wLY_0_2 : u_lay RX0 TX0 2 ∈ okW := ok_of (tb_1 (List.mem_of_getElem? (i := 102) rfl)) rfl
theorem wLY_0_3 : u_lay RX0 TX0 3 ∈ okW := ok_of (tb_1 (List.mem_of_getElem? (i := 104) rfl)) rfl
theorem wLY_0_4 : u_lay RX0 TX0 4 ∈ okW := ok_of (tb_1 (List.mem_of_getElem? (i := 106) rfl)) rfl
theorem wLY_0_5 : u_lay RX0 TX0 5 ∈ okW := ok_of (tb_1 (List.mem_of_getElem? (i := 108) rfl)) rfl
theorem wLY_0_6 : u_lay RX0 TX0 6 ∈ okW := ok_of (tb_1 (List.mem_of_getElem? (i := 110) rfl)) rfl
theorem wLY_0_7 : u_lay RX0 TX0 7 ∈ okW := ok_of (tb_1 (List.mem_of_getElem? (i := 112) rfl)) rfl
theorem wLY_0_8 : u_lay RX0 TX0 8 ∈ okW := ok_of (tb_1 (List.mem_of_getElem? (i := 114) rfl)) rfl
theorem wLY_0_9 : u_lay RX0 TX0 9 ∈ okW := ok_of (tb_1 (List.mem_of_getElem? (i := 116) rfl)) rfl
theorem wLY_0_10 : u_lay RX0 TX0 10 ∈ okW := ok_of (tb_1 (List.mem_of_getElem? (i := 118) rfl)) rfl
theorem wLY_0_11 : u_lay RX0 TX0 11 ∈ okW := ok_of (tb_1 (List.mem_of_getElem? (i := 120) rfl)) rfl
theorem wLY_0_12 : u_lay RX0 TX0 12 ∈ okW := ok_of (tb_1 (List.mem_of_getElem? (i := 122) rfl)) rfl
theorem wLY_0_13 : u_lay RX0 TX0 13 ∈ okW := ok_of (tb_1 (List.mem_of_getElem? (i := 124) rfl)) rfl
theorem wLY_0_14 : u_lay RX0 TX0 14 ∈ okW := ok_of (tb_1 (List.mem_of_getElem? (i := 126) rfl)) rfl
theorem wLY_0_15 : u_lay RX0 TX0 15 ∈ okW := ok_of (tb_1 (List.mem_of_getElem? (i := 128) rfl)) rfl
theorem wLY_0_16 : u_lay RX0 TX0 16 ∈ okW := ok_of (tb_1 (List.mem_of_getElem? (i := 130) rfl)) rfl
theorem wLY_0_17 : u_lay RX0 TX0 17 ∈ okW := ok_of (tb_1 (List.mem_of_getElem? (i := 132) rfl)) rfl
theorem wAC_int : Cond.arrayClass .int ∈ okW := ok_of (tb_1 (List.mem_of_getElem? (i := 135) rfl)) rfl
theorem wIS_X7 : Cond.instantiable RX7 10 ∈ okW := ok_of (tb_1 (List.mem_of_getElem? (i := 136) rfl)) rfl
theorem wIM_X7_init : Cond.instanceMethod yX7_init ∈ okW := ok_of (tb_1 (List.mem_of_getElem? (i := 138) rfl)) rfl
theorem wCD_X7_init : Cond.code yX7_init cX7_init 1 none ∈ okW := ok_of (tb_1 (List.mem_of_getElem? (i := 139) rfl)) rfl
theorem wM_X7_3 : Cond.methodLink RX7 3 objectInit ∈ okW := ok_of (tb_1 (List.mem_of_getElem? (i := 140) rfl)) rfl
theorem wF_X7_36 : Cond.fieldLink RX7 36 (TX7 0).1 (TX7 0).2.1 (TX7 0).2.2.1 ∈ okW := ok_of (tb_1 (List.mem_of_getElem? (i := 141) rfl)) rfl
theorem wF_X6_43 : Cond.fieldLink RX6 43 (TX7 0).1 (TX7 0).2.1 (TX7 0).2.2.1 ∈ okW := ok_of (tb_1 (List.mem_of_getElem? (i := 142) rfl)) rfl
theorem wF_X9_144 : Cond.fieldLink RX9 144 (TX7 0).1 (TX7 0).2.1 (TX7 0).2.2.1 ∈ okW := ok_of (tb_1 (List.mem_of_getElem? (i := 143) rfl)) rfl
theorem wF_X4_84 : Cond.fieldLink RX4 84 (TX7 0).1 (TX7 0).2.1 (TX7 0).2.2.1 ∈ okW := ok_of (tb_1 (List.mem_of_getElem? (i := 144) rfl)) rfl
theorem wF_X7_9 : Cond.fieldLink RX7 9 (TX7 1).1 (TX7 1).2.1 (TX7 1).2.2.1 ∈ okW := ok_of (tb_1 (List.mem_of_getElem? (i := 145) rfl)) rfl
theorem wF_X6_48 : Cond.fieldLink RX6 48 (TX7 1).1 (TX7 1).2.1 (TX7 1).2.2.1 ∈ okW := ok_of (tb_1 (List.mem_of_getElem? (i := 146) rfl)) rfl
theorem wF_X4_87 : Cond.fieldLink RX4 87 (TX7 1).1 (TX7 1).2.1 (TX7 1).2.2.1 ∈ okW := ok_of (tb_1 (List.mem_of_getElem? (i := 147) rfl)) rfl
theorem wF_X9_389 : Cond.fieldLink RX9 389 (TX7 1).1 (TX7 1).2.1 (TX7 1).2.2.1 ∈ okW := ok_of (tb_1 (List.mem_of_getElem? (i := 148) rfl)) rfl
theorem wF_X7_15 : Cond.fieldLink RX7 15 (TX7 2).1 (TX7 2).2.1 (TX7 2).2.2.1 ∈ okW := ok_of (tb_1 (List.mem_of_getElem? (i := 149) rfl)) rfl
theorem wF_X6_51 : Cond.fieldLink RX6 51 (TX7 2).1 (TX7 2).2.1 (TX7 2).2.2.1 ∈ okW := ok_of (tb_1 (List.mem_of_getElem? (i := 150) rfl)) rfl
theorem wF_X4_90 : Cond.fieldLink RX4 90 (TX7 2).1 (TX7 2).2.1 (TX7 2).2.2.1 ∈ okW := ok_of (tb_1 (List.mem_of_getElem? (i := 151) rfl)) rfl
theorem wF_X9_383 : Cond.fieldLink RX9 383 (TX7 2).1 (TX7 2).2.1 (TX7 2).2.2.1 ∈ okW := ok_of (tb_1 (List.mem_of_getElem? (i := 152) rfl)) rfl
theorem wF_X7_18 : Cond.fieldLink RX7 18 (TX7 3).1 (TX7 3).2.1 (TX7 3).2.2.1 ∈ okW := ok_of (tb_1 (List.mem_of_getElem? (i := 153) rfl)) rfl
theorem wF_X4_122 : Cond.fieldLink RX4 122 (TX7 3).1 (TX7 3).2.1 (TX7 3).2.2.1 ∈ okW := ok_of (tb_1 (List.mem_of_getElem? (i := 154) rfl)) rfl
theorem wF_X9_392 : Cond.fieldLink RX9 392 (TX7 3).1 (TX7 3).2.1 (TX7 3).2.2.1 ∈ okW := ok_of (tb_1 (List.mem_of_getElem? (i := 155) rfl)) rfl
theorem wF_X7_21 : Cond.fieldLink RX7 21 (TX7 4).1 (TX7 4).2.1 (TX7 4).2.2.1 ∈ okW := ok_of (tb_1 (List.mem_of_getElem? (i := 156) rfl)) rfl
theorem wF_X4_125 : Cond.fieldLink RX4 125 (TX7 4).1 (TX7 4).2.1 (TX7 4).2.2.1 ∈ okW := ok_of (tb_1 (List.mem_of_getElem? (i := 157) rfl)) rfl
theorem wF_X9_386 : Cond.fieldLink RX9 386 (TX7 4).1 (TX7 4).2.1 (TX7 4).2.2.1 ∈ okW := ok_of (tb_1 (List.mem_of_getElem? (i := 158) rfl)) rfl
theorem wF_X7_24 : Cond.fieldLink RX7 24 (TX7 5).1 (TX7 5).2.1 (TX7 5).2.2.1 ∈ okW := ok_of (tb_1 (List.mem_of_getElem? (i := 159) rfl)) rfl
theorem wF_X6_68 : Cond.fieldLink RX6 68 (TX7 5).1 (TX7 5).2.1 (TX7 5).2.2.1 ∈ okW := ok_of (tb_1 (List.mem_of_getElem? (i := 160) rfl)) rfl
theorem wF_X4_93 : Cond.fieldLink RX4 93 (TX7 5).1 (TX7 5).2.1 (TX7 5).2.2.1 ∈ okW := ok_of (tb_1 (List.mem_of_getElem? (i := 161) rfl)) rfl
theorem wF_X7_27 : Cond.fieldLink RX7 27 (TX7 6).1 (TX7 6).2.1 (TX7 6).2.2.1 ∈ okW := ok_of (tb_1 (List.mem_of_getElem? (i := 162) rfl)) rfl
theorem wF_X6_58 : Cond.fieldLink RX6 58 (TX7 6).1 (TX7 6).2.1 (TX7 6).2.2.1 ∈ okW := ok_of (tb_1 (List.mem_of_getElem? (i := 163) rfl)) rfl
theorem wF_X4_110 : Cond.fieldLink RX4 110 (TX7 6).1 (TX7 6).2.1 (TX7 6).2.2.1 ∈ okW := ok_of (tb_1 (List.mem_of_getElem? (i := 164) rfl)) rfl
theorem wF_X9_374 : Cond.fieldLink RX9 374 (TX7 6).1 (TX7 6).2.1 (TX7 6).2.2.1 ∈ okW := ok_of (tb_1 (List.mem_of_getElem? (i := 165) rfl)) rfl
theorem wF_X7_30 : Cond.fieldLink RX7 30 (TX7 7).1 (TX7 7).2.1 (TX7 7).2.2.1 ∈ okW := ok_of (tb_1 (List.mem_of_getElem? (i := 166) rfl)) rfl
theorem wF_X6_61 : Cond.fieldLink RX6 61 (TX7 7).1 (TX7 7).2.1 (TX7 7).2.2.1 ∈ okW := ok_of (tb_1 (List.mem_of_getElem? (i := 167) rfl)) rfl
theorem wF_X4_116 : Cond.fieldLink RX4 116 (TX7 7).1 (TX7 7).2.1 (TX7 7).2.2.1 ∈ okW := ok_of (tb_1 (List.mem_of_getElem? (i := 168) rfl)) rfl
theorem wF_X9_377 : Cond.fieldLink RX9 377 (TX7 7).1 (TX7 7).2.1 (TX7 7).2.2.1 ∈ okW := ok_of (tb_1 (List.mem_of_getElem? (i := 169) rfl)) rfl
theorem wF_X7_33 : Cond.fieldLink RX7 33 (TX7 8).1 (TX7 8).2.1 (TX7 8).2.2.1 ∈ okW := ok_of (tb_1 (List.mem_of_getElem? (i := 170) rfl)) rfl
theorem wF_X6_94 : Cond.fieldLink RX6 94 (TX7 8).1 (TX7 8).2.1 (TX7 8).2.2.1 ∈ okW := ok_of (tb_1 (List.mem_of_getElem? (i := 171) rfl)) rfl
theorem wF_X7_40 : Cond.fieldLink RX7 40 (TX7 9).1 (TX7 9).2.1 (TX7 9).2.2.1 ∈ okW := ok_of (tb_1 (List.mem_of_getElem? (i := 172) rfl)) rfl
theorem wF_X4_96 : Cond.fieldLink RX4 96 (TX7 9).1 (TX7 9).2.1 (TX7 9).2.2.1 ∈ okW := ok_of (tb_1 (List.mem_of_getElem? (i := 173) rfl)) rfl
theorem wLY_7_0 : u_lay RX7 TX7 0 ∈ okW := ok_of (tb_1 (List.mem_of_getElem? (i := 174) rfl)) rfl
theorem wLY_7_1 : u_lay RX7 TX7 1 ∈ okW := ok_of (tb_1 (List.mem_of_getElem? (i := 176) rfl)) rfl
theorem wLY_7_2 : u_lay RX7 TX7 2 ∈ okW := ok_of (tb_1 (List.mem_of_getElem? (i := 178) rfl)) rfl
theorem wLY_7_3 : u_lay RX7 TX7 3 ∈ okW := ok_of (tb_1 (List.mem_of_getElem? (i := 180) rfl)) rfl
theorem wLY_7_4 : u_lay RX7 TX7 4 ∈ okW := ok_of (tb_1 (List.mem_of_getElem? (i := 182) rfl)) rfl
theorem wLY_7_5 : u_lay RX7 TX7 5 ∈ okW := ok_of (tb_1 (List.mem_of_getElem? (i := 184) rfl)) rfl
theorem wLY_7_6 : u_lay RX7 TX7 6 ∈ okW := ok_of (tb_1 (List.mem_of_getElem? (i := 186) rfl)) rfl
theorem wLY_7_7 : u_lay RX7 TX7 7 ∈ okW := ok_of (tb_1 (List.mem_of_getElem? (i := 188) rfl)) rfl
theorem wLY_7_8 : u_lay RX7 TX7 8 ∈ okW := ok_of (tb_1 (List.mem_of_getElem? (i := 190) rfl)) rfl
theorem wLY_7_9 : u_lay RX7 TX7 9 ∈ okW := ok_of (tb_1 (List.mem_of_getElem? (i := 192) rfl)) rfl
theorem wF_X8_11 : Cond.fieldLink RX8 11 (TX8 0).1 (TX8 0).2.1 (TX8 0).2.2.1 ∈ okW := ok_of (tb_1 (List.mem_of_getElem? (i := 195) rfl)) rfl
theorem wF_X9_68 : Cond.fieldLink RX9 68 (TX8 0).1 (TX8 0).2.1 (TX8 0).2.2.1 ∈ okW := ok_of (tb_1 (List.mem_of_getElem? (i := 196) rfl)) rfl
theorem wF_X9_64 : Cond.fieldLink RX9 64 (TX8 1).1 (TX8 1).2.1 (TX8 1).2.2.1 ∈ okW := ok_of (tb_1 (List.mem_of_getElem? (i := 197) rfl)) rfl
theorem wF_X8_57 : Cond.fieldLink RX8 57 (TX8 1).1 (TX8 1).2.1 (TX8 1).2.2.1 ∈ okW := ok_of (tb_1 (List.mem_of_getElem? (i := 198) rfl)) rfl
theorem wF_X8_19 : Cond.fieldLink RX8 19 (TX8 2).1 (TX8 2).2.1 (TX8 2).2.2.1 ∈ okW := ok_of (tb_1 (List.mem_of_getElem? (i := 199) rfl)) rfl
theorem wF_X9_158 : Cond.fieldLink RX9 158 (TX8 2).1 (TX8 2).2.1 (TX8 2).2.2.1 ∈ okW := ok_of (tb_1 (List.mem_of_getElem? (i := 200) rfl)) rfl
theorem wF_X8_23 : Cond.fieldLink RX8 23 (TX8 3).1 (TX8 3).2.1 (TX8 3).2.2.1 ∈ okW := ok_of (tb_1 (List.mem_of_getElem? (i := 201) rfl)) rfl
theorem wF_X9_220 : Cond.fieldLink RX9 220 (TX8 3).1 (TX8 3).2.1 (TX8 3).2.2.1 ∈ okW := ok_of (tb_1 (List.mem_of_getElem? (i := 202) rfl)) rfl
theorem wF_X8_54 : Cond.fieldLink RX8 54 (TX8 4).1 (TX8 4).2.1 (TX8 4).2.2.1 ∈ okW := ok_of (tb_1 (List.mem_of_getElem? (i := 203) rfl)) rfl
theorem wF_X9_147 : Cond.fieldLink RX9 147 (TX8 4).1 (TX8 4).2.1 (TX8 4).2.2.1 ∈ okW := ok_of (tb_1 (List.mem_of_getElem? (i := 204) rfl)) rfl
theorem wF_X8_26 : Cond.fieldLink RX8 26 (TX8 5).1 (TX8 5).2.1 (TX8 5).2.2.1 ∈ okW := ok_of (tb_1 (List.mem_of_getElem? (i := 205) rfl)) rfl
theorem wF_X9_184 : Cond.fieldLink RX9 184 (TX8 5).1 (TX8 5).2.1 (TX8 5).2.2.1 ∈ okW := ok_of (tb_1 (List.mem_of_getElem? (i := 206) rfl)) rfl
theorem wF_X8_67 : Cond.fieldLink RX8 67 (TX8 6).1 (TX8 6).2.1 (TX8 6).2.2.1 ∈ okW := ok_of (tb_1 (List.mem_of_getElem? (i := 207) rfl)) rfl
theorem wF_X9_111 : Cond.fieldLink RX9 111 (TX8 6).1 (TX8 6).2.1 (TX8 6).2.2.1 ∈ okW := ok_of (tb_1 (List.mem_of_getElem? (i := 208) rfl)) rfl
theorem wF_X8_30 : Cond.fieldLink RX8 30 (TX8 7).1 (TX8 7).2.1 (TX8 7).2.2.1 ∈ okW := ok_of (tb_1 (List.mem_of_getElem? (i := 209) rfl)) rfl
theorem wF_X9_114 : Cond.fieldLink RX9 114 (TX8 7).1 (TX8 7).2.1 (TX8 7).2.2.1 ∈ okW := ok_of (tb_1 (List.mem_of_getElem? (i := 210) rfl)) rfl
theorem wF_X8_33 : Cond.fieldLink RX8 33 (TX8 8).1 (TX8 8).2.1 (TX8 8).2.2.1 ∈ okW := ok_of (tb_1 (List.mem_of_getElem? (i := 211) rfl)) rfl
theorem wF_X9_296 : Cond.fieldLink RX9 296 (TX8 8).1 (TX8 8).2.1 (TX8 8).2.2.1 ∈ okW := ok_of (tb_1 (List.mem_of_getElem? (i := 212) rfl)) rfl
theorem wF_X8_37 : Cond.fieldLink RX8 37 (TX8 9).1 (TX8 9).2.1 (TX8 9).2.2.1 ∈ okW := ok_of (tb_1 (List.mem_of_getElem? (i := 213) rfl)) rfl
theorem wF_X9_299 : Cond.fieldLink RX9 299 (TX8 9).1 (TX8 9).2.1 (TX8 9).2.2.1 ∈ okW := ok_of (tb_1 (List.mem_of_getElem? (i := 214) rfl)) rfl
theorem wF_X8_76 : Cond.fieldLink RX8 76 (TX8 10).1 (TX8 10).2.1 (TX8 10).2.2.1 ∈ okW := ok_of (tb_1 (List.mem_of_getElem? (i := 215) rfl)) rfl
theorem wF_X9_293 : Cond.fieldLink RX9 293 (TX8 10).1 (TX8 10).2.1 (TX8 10).2.2.1 ∈ okW := ok_of (tb_1 (List.mem_of_getElem? (i := 216) rfl)) rfl
theorem wF_X8_40 : Cond.fieldLink RX8 40 (TX8 11).1 (TX8 11).2.1 (TX8 11).2.2.1 ∈ okW := ok_of (tb_1 (List.mem_of_getElem? (i := 217) rfl)) rfl
theorem wF_X9_320 : Cond.fieldLink RX9 320 (TX8 11).1 (TX8 11).2.1 (TX8 11).2.2.1 ∈ okW := ok_of (tb_1 (List.mem_of_getElem? (i := 218) rfl)) rfl
theorem wF_X8_43 : Cond.fieldLink RX8 43 (TX8 12).1 (TX8 12).2.1 (TX8 12).2.2.1 ∈ okW := ok_of (tb_1 (List.mem_of_getElem? (i := 219) rfl)) rfl
theorem wF_X5_55 : Cond.fieldLink RX5 55 (TX8 12).1 (TX8 12).2.1 (TX8 12).2.2.1 ∈ okW := ok_of (tb_1 (List.mem_of_getElem? (i := 220) rfl)) rfl
theorem wF_X9_323 : Cond.fieldLink RX9 323 (TX8 12).1 (TX8 12).2.1 (TX8 12).2.2.1 ∈ okW := ok_of (tb_1 (List.mem_of_getElem? (i := 221) rfl)) rfl
theorem wF_X5_38 : Cond.fieldLink RX5 38 (TX8 13).1 (TX8 13).2.1 (TX8 13).2.2.1 ∈ okW := ok_of (tb_1 (List.mem_of_getElem? (i := 222) rfl)) rfl
theorem wF_X8_79 : Cond.fieldLink RX8 79 (TX8 13).1 (TX8 13).2.1 (TX8 13).2.2.1 ∈ okW := ok_of (tb_1 (List.mem_of_getElem? (i := 223) rfl)) rfl
theorem wF_X9_317 : Cond.fieldLink RX9 317 (TX8 13).1 (TX8 13).2.1 (TX8 13).2.2.1 ∈ okW := ok_of (tb_1 (List.mem_of_getElem? (i := 224) rfl)) rfl
theorem wF_X8_46 : Cond.fieldLink RX8 46 (TX8 14).1 (TX8 14).2.1 (TX8 14).2.2.1 ∈ okW := ok_of (tb_1 (List.mem_of_getElem? (i := 225) rfl)) rfl
theorem wF_X5_52 : Cond.fieldLink RX5 52 (TX8 14).1 (TX8 14).2.1 (TX8 14).2.2.1 ∈ okW := ok_of (tb_1 (List.mem_of_getElem? (i := 226) rfl)) rfl
theorem wF_X9_329 : Cond.fieldLink RX9 329 (TX8 14).1 (TX8 14).2.1 (TX8 14).2.2.1 ∈ okW := ok_of (tb_1 (List.mem_of_getElem? (i := 227) rfl)) rfl
theorem wF_X8_49 : Cond.fieldLink RX8 49 (TX8 15).1 (TX8 15).2.1 (TX8 15).2.2.1 ∈ okW := ok_of (tb_1 (List.mem_of_getElem? (i := 228) rfl)) rfl
theorem wF_X5_62 : Cond.fieldLink RX5 62 (TX8 15).1 (TX8 15).2.1 (TX8 15).2.2.1 ∈ okW := ok_of (tb_1 (List.mem_of_getElem? (i := 229) rfl)) rfl
theorem wF_X9_332 : Cond.fieldLink RX9 332 (TX8 15).1 (TX8 15).2.1 (TX8 15).2.2.1 ∈ okW := ok_of (tb_1 (List.mem_of_getElem? (i := 230) rfl)) rfl
theorem wF_X5_49 : Cond.fieldLink RX5 49 (TX8 16).1 (TX8 16).2.1 (TX8 16).2.2.1 ∈ okW := ok_of (tb_1 (List.mem_of_getElem? (i := 231) rfl)) rfl
theorem wF_X8_82 : Cond.fieldLink RX8 82 (TX8 16).1 (TX8 16).2.1 (TX8 16).2.2.1 ∈ okW := ok_of (tb_1 (List.mem_of_getElem? (i := 232) rfl)) rfl
theorem wF_X9_326 : Cond.fieldLink RX9 326 (TX8 16).1 (TX8 16).2.1 (TX8 16).2.2.1 ∈ okW := ok_of (tb_1 (List.mem_of_getElem? (i := 233) rfl)) rfl
theorem wLY_8_0 : u_lay RX8 TX8 0 ∈ okW := ok_of (tb_1 (List.mem_of_getElem? (i := 234) rfl)) rfl
theorem wLY_8_1 : u_lay RX8 TX8 1 ∈ okW := ok_of (tb_1 (List.mem_of_getElem? (i := 236) rfl)) rfl
theorem wLY_8_2 : u_lay RX8 TX8 2 ∈ okW := ok_of (tb_1 (List.mem_of_getElem? (i := 238) rfl)) rfl
theorem wLY_8_3 : u_lay RX8 TX8 3 ∈ okW := ok_of (tb_2 (List.mem_of_getElem? (i := 0) rfl)) rfl
theorem wLY_8_4 : u_lay RX8 TX8 4 ∈ okW := ok_of (tb_2 (List.mem_of_getElem? (i := 2) rfl)) rfl
theorem wLY_8_5 : u_lay RX8 TX8 5 ∈ okW := ok_of (tb_2 (List.mem_of_getElem? (i := 4) rfl)) rfl
theorem wLY_8_6 : u_lay RX8 TX8 6 ∈ okW := ok_of (tb_2 (List.mem_of_getElem? (i := 6) rfl)) rfl
theorem wLY_8_7 : u_lay RX8 TX8 7 ∈ okW := ok_of (tb_2 (List.mem_of_getElem? (i := 8) rfl)) rfl
theorem wLY_8_8 : u_lay RX8 TX8 8 ∈ okW := ok_of (tb_2 (List.mem_of_getElem? (i := 10) rfl)) rfl
theorem wLY_8_9 : u_lay RX8 TX8 9 ∈ okW := ok_of (tb_2 (List.mem_of_getElem? (i := 12) rfl)) rfl
theorem wLY_8_10 : u_lay RX8 TX8 10 ∈ okW := ok_of (tb_2 (List.mem_of_getElem? (i := 14) rfl)) rfl
theorem wLY_8_11 : u_lay RX8 TX8 11 ∈ okW := ok_of (tb_2 (List.mem_of_getElem? (i := 16) rfl)) rfl
theorem wLY_8_12 : u_lay RX8 TX8 12 ∈ okW := ok_of (tb_2 (List.mem_of_getElem? (i := 18) rfl)) rfl
theorem wLY_8_13 : u_lay RX8 TX8 13 ∈ okW := ok_of (tb_2 (List.mem_of_getElem? (i := 20) rfl)) rfl
theorem wLY_8_14 : u_lay RX8 TX8 14 ∈ okW := ok_of (tb_2 (List.mem_of_getElem? (i := 22) rfl)) rfl
theorem wLY_8_15 : u_lay RX8 TX8 15 ∈ okW := ok_of (tb_2 (List.mem_of_getElem? (i := 24) rfl)) rfl
theorem wLY_8_16 : u_lay RX8 TX8 16 ∈ okW := ok_of (tb_2 (List.mem_of_getElem? (i := 26) rfl)) rfl
theorem wC_X9_20 : Cond.classLink RX9 20 RX4 ∈ okW := ok_of (tb_2 (List.mem_of_getElem? (i := 29) rfl)) rfl
theorem wIS_X4 : Cond.instantiable RX4 9 ∈ okW := ok_of (tb_2 (List.mem_of_getElem? (i := 30) rfl)) rfl
theorem wIM_X4_init : Cond.instanceMethod yX4_init ∈ okW := ok_of (tb_2 (List.mem_of_getElem? (i := 32) rfl)) rfl
theorem wCD_X4_init : Cond.code yX4_init cX4_init 1 none ∈ okW := ok_of (tb_2 (List.mem_of_getElem? (i := 33) rfl)) rfl
theorem wM_X4_3 : Cond.methodLink RX4 3 objectInit ∈ okW := ok_of (tb_2 (List.mem_of_getElem? (i := 34) rfl)) rfl
theorem wC_X4_9 : Cond.classLink RX4 9 RX7 ∈ okW := ok_of (tb_2 (List.mem_of_getElem? (i := 35) rfl)) rfl
theorem wF_X4_12 : Cond.fieldLink RX4 12 (TX4 0).1 (TX4 0).2.1 (TX4 0).2.2.1 ∈ okW := ok_of (tb_2 (List.mem_of_getElem? (i := 37) rfl)) rfl
theorem wF_X9_134 : Cond.fieldLink RX9 134 (TX4 0).1 (TX4 0).2.1 (TX4 0).2.2.1 ∈ okW := ok_of (tb_2 (List.mem_of_getElem? (i := 38) rfl)) rfl
theorem wF_X4_32 : Cond.fieldLink RX4 32 (TX4 1).1 (TX4 1).2.1 (TX4 1).2.2.1 ∈ okW := ok_of (tb_2 (List.mem_of_getElem? (i := 39) rfl)) rfl
theorem wF_X9_132 : Cond.fieldLink RX9 132 (TX4 1).1 (TX4 1).2.1 (TX4 1).2.2.1 ∈ okW := ok_of (tb_2 (List.mem_of_getElem? (i := 40) rfl)) rfl
theorem wF_X4_36 : Cond.fieldLink RX4 36 (TX4 2).1 (TX4 2).2.1 (TX4 2).2.2.1 ∈ okW := ok_of (tb_2 (List.mem_of_getElem? (i := 41) rfl)) rfl
theorem wF_X9_133 : Cond.fieldLink RX9 133 (TX4 2).1 (TX4 2).2.1 (TX4 2).2.2.1 ∈ okW := ok_of (tb_2 (List.mem_of_getElem? (i := 42) rfl)) rfl
theorem wF_X4_18 : Cond.fieldLink RX4 18 (TX4 3).1 (TX4 3).2.1 (TX4 3).2.2.1 ∈ okW := ok_of (tb_2 (List.mem_of_getElem? (i := 43) rfl)) rfl
theorem wF_X4_22 : Cond.fieldLink RX4 22 (TX4 4).1 (TX4 4).2.1 (TX4 4).2.2.1 ∈ okW := ok_of (tb_2 (List.mem_of_getElem? (i := 44) rfl)) rfl
theorem wF_X4_25 : Cond.fieldLink RX4 25 (TX4 5).1 (TX4 5).2.1 (TX4 5).2.2.1 ∈ okW := ok_of (tb_2 (List.mem_of_getElem? (i := 45) rfl)) rfl
theorem wF_X4_45 : Cond.fieldLink RX4 45 (TX4 6).1 (TX4 6).2.1 (TX4 6).2.2.1 ∈ okW := ok_of (tb_2 (List.mem_of_getElem? (i := 46) rfl)) rfl
theorem wF_X4_42 : Cond.fieldLink RX4 42 (TX4 7).1 (TX4 7).2.1 (TX4 7).2.2.1 ∈ okW := ok_of (tb_2 (List.mem_of_getElem? (i := 47) rfl)) rfl
theorem wF_X4_28 : Cond.fieldLink RX4 28 (TX4 8).1 (TX4 8).2.1 (TX4 8).2.2.1 ∈ okW := ok_of (tb_2 (List.mem_of_getElem? (i := 48) rfl)) rfl
theorem wLY_4_0 : u_lay RX4 TX4 0 ∈ okW := ok_of (tb_2 (List.mem_of_getElem? (i := 49) rfl)) rfl
theorem wLY_4_1 : u_lay RX4 TX4 1 ∈ okW := ok_of (tb_2 (List.mem_of_getElem? (i := 51) rfl)) rfl
theorem wLY_4_2 : u_lay RX4 TX4 2 ∈ okW := ok_of (tb_2 (List.mem_of_getElem? (i := 53) rfl)) rfl
theorem wLY_4_3 : u_lay RX4 TX4 3 ∈ okW := ok_of (tb_2 (List.mem_of_getElem? (i := 55) rfl)) rfl
theorem wLY_4_4 : u_lay RX4 TX4 4 ∈ okW := ok_of (tb_2 (List.mem_of_getElem? (i := 57) rfl)) rfl
theorem wLY_4_5 : u_lay RX4 TX4 5 ∈ okW := ok_of (tb_2 (List.mem_of_getElem? (i := 59) rfl)) rfl
theorem wLY_4_6 : u_lay RX4 TX4 6 ∈ okW := ok_of (tb_2 (List.mem_of_getElem? (i := 61) rfl)) rfl
theorem wLY_4_7 : u_lay RX4 TX4 7 ∈ okW := ok_of (tb_2 (List.mem_of_getElem? (i := 63) rfl)) rfl
theorem wLY_4_8 : u_lay RX4 TX4 8 ∈ okW := ok_of (tb_2 (List.mem_of_getElem? (i := 65) rfl)) rfl
theorem wC_X9_27 : Cond.classLink RX9 27 RX6 ∈ okW := ok_of (tb_2 (List.mem_of_getElem? (i := 68) rfl)) rfl
theorem wIS_X6 : Cond.instantiable RX6 2 ∈ okW := ok_of (tb_2 (List.mem_of_getElem? (i := 69) rfl)) rfl
theorem wIM_X6_init : Cond.instanceMethod yX6_init ∈ okW := ok_of (tb_2 (List.mem_of_getElem? (i := 71) rfl)) rfl
theorem wCD_X6_init : Cond.code yX6_init cX6_init 1 none ∈ okW := ok_of (tb_2 (List.mem_of_getElem? (i := 72) rfl)) rfl
theorem wM_X6_3 : Cond.methodLink RX6 3 objectInit ∈ okW := ok_of (tb_2 (List.mem_of_getElem? (i := 73) rfl)) rfl
theorem wF_X6_9 : Cond.fieldLink RX6 9 (TX6 0).1 (TX6 0).2.1 (TX6 0).2.2.1 ∈ okW := ok_of (tb_2 (List.mem_of_getElem? (i := 74) rfl)) rfl
theorem wF_X6_15 : Cond.fieldLink RX6 15 (TX6 1).1 (TX6 1).2.1 (TX6 1).2.2.1 ∈ okW := ok_of (tb_2 (List.mem_of_getElem? (i := 75) rfl)) rfl
theorem wLY_6_0 : u_lay RX6 TX6 0 ∈ okW := ok_of (tb_2 (List.mem_of_getElem? (i := 76) rfl)) rfl
theorem wLY_6_1 : u_lay RX6 TX6 1 ∈ okW := ok_of (tb_2 (List.mem_of_getElem? (i := 78) rfl)) rfl
theorem wC_X9_34 : Cond.classLink RX9 34 RX3 ∈ okW := ok_of (tb_2 (List.mem_of_getElem? (i := 81) rfl)) rfl
theorem wIS_X3 : Cond.instantiable RX3 12 ∈ okW := ok_of (tb_2 (List.mem_of_getElem? (i := 82) rfl)) rfl
theorem wIM_X3_init : Cond.instanceMethod yX3_init ∈ okW := ok_of (tb_2 (List.mem_of_getElem? (i := 84) rfl)) rfl
theorem wCD_X3_init : Cond.code yX3_init cX3_init 1 none ∈ okW := ok_of (tb_2 (List.mem_of_getElem? (i := 85) rfl)) rfl
theorem wM_X3_5 : Cond.methodLink RX3 5 objectInit ∈ okW := ok_of (tb_2 (List.mem_of_getElem? (i := 86) rfl)) rfl
theorem wC_X3_36 : Cond.classLink RX3 36 RX2 ∈ okW := ok_of (tb_2 (List.mem_of_getElem? (i := 87) rfl)) rfl
theorem wIS_X2 : Cond.instantiable RX2 2 ∈ okW := ok_of (tb_2 (List.mem_of_getElem? (i := 88) rfl)) rfl
theorem wIM_X2_init : Cond.instanceMethod yX2_init ∈ okW := ok_of (tb_2 (List.mem_of_getElem? (i := 90) rfl)) rfl
theorem wCD_X2_init : Cond.code yX2_init cX2_init 1 none ∈ okW := ok_of (tb_2 (List.mem_of_getElem? (i := 91) rfl)) rfl
theorem wM_X2_1 : Cond.methodLink RX2 1 objectInit ∈ okW := ok_of (tb_2 (List.mem_of_getElem? (i := 92) rfl)) rfl
theorem wF_X2_9 : Cond.fieldLink RX2 9 (TX2 0).1 (TX2 0).2.1 (TX2 0).2.2.1 ∈ okW := ok_of (tb_2 (List.mem_of_getElem? (i := 93) rfl)) rfl
theorem wF_X2_13 : Cond.fieldLink RX2 13 (TX2 1).1 (TX2 1).2.1 (TX2 1).2.2.1 ∈ okW := ok_of (tb_2 (List.mem_of_getElem? (i := 94) rfl)) rfl
theorem wF_X1_129 : Cond.fieldLink RX1 129 (TX2 1).1 (TX2 1).2.1 (TX2 1).2.2.1 ∈ okW := ok_of (tb_2 (List.mem_of_getElem? (i := 95) rfl)) rfl
theorem wLY_2_0 : u_lay RX2 TX2 0 ∈ okW := ok_of (tb_2 (List.mem_of_getElem? (i := 96) rfl)) rfl
theorem wLY_2_1 : u_lay RX2 TX2 1 ∈ okW := ok_of (tb_2 (List.mem_of_getElem? (i := 98) rfl)) rfl
theorem wF_X3_11 : Cond.fieldLink RX3 11 (TX3 0).1 (TX3 0).2.1 (TX3 0).2.2.1 ∈ okW := ok_of (tb_2 (List.mem_of_getElem? (i := 101) rfl)) rfl
theorem wF_X9_239 : Cond.fieldLink RX9 239 (TX3 0).1 (TX3 0).2.1 (TX3 0).2.2.1 ∈ okW := ok_of (tb_2 (List.mem_of_getElem? (i := 102) rfl)) rfl
theorem wF_X3_15 : Cond.fieldLink RX3 15 (TX3 1).1 (TX3 1).2.1 (TX3 1).2.2.1 ∈ okW := ok_of (tb_2 (List.mem_of_getElem? (i := 103) rfl)) rfl
theorem wF_X3_18 : Cond.fieldLink RX3 18 (TX3 2).1 (TX3 2).2.1 (TX3 2).2.2.1 ∈ okW := ok_of (tb_2 (List.mem_of_getElem? (i := 104) rfl)) rfl
theorem wF_X3_21 : Cond.fieldLink RX3 21 (TX3 3).1 (TX3 3).2.1 (TX3 3).2.2.1 ∈ okW := ok_of (tb_2 (List.mem_of_getElem? (i := 105) rfl)) rfl
theorem wF_X3_24 : Cond.fieldLink RX3 24 (TX3 4).1 (TX3 4).2.1 (TX3 4).2.2.1 ∈ okW := ok_of (tb_2 (List.mem_of_getElem? (i := 106) rfl)) rfl
theorem wF_X3_27 : Cond.fieldLink RX3 27 (TX3 5).1 (TX3 5).2.1 (TX3 5).2.2.1 ∈ okW := ok_of (tb_2 (List.mem_of_getElem? (i := 107) rfl)) rfl
theorem wF_X3_30 : Cond.fieldLink RX3 30 (TX3 6).1 (TX3 6).2.1 (TX3 6).2.2.1 ∈ okW := ok_of (tb_2 (List.mem_of_getElem? (i := 108) rfl)) rfl
theorem wF_X3_33 : Cond.fieldLink RX3 33 (TX3 7).1 (TX3 7).2.1 (TX3 7).2.2.1 ∈ okW := ok_of (tb_2 (List.mem_of_getElem? (i := 109) rfl)) rfl
theorem wF_X3_39 : Cond.fieldLink RX3 39 (TX3 8).1 (TX3 8).2.1 (TX3 8).2.2.1 ∈ okW := ok_of (tb_2 (List.mem_of_getElem? (i := 110) rfl)) rfl
theorem wF_X3_55 : Cond.fieldLink RX3 55 (TX3 9).1 (TX3 9).2.1 (TX3 9).2.2.1 ∈ okW := ok_of (tb_2 (List.mem_of_getElem? (i := 111) rfl)) rfl
theorem wF_X3_56 : Cond.fieldLink RX3 56 (TX3 10).1 (TX3 10).2.1 (TX3 10).2.2.1 ∈ okW := ok_of (tb_2 (List.mem_of_getElem? (i := 112) rfl)) rfl
theorem wF_X3_59 : Cond.fieldLink RX3 59 (TX3 11).1 (TX3 11).2.1 (TX3 11).2.2.1 ∈ okW := ok_of (tb_2 (List.mem_of_getElem? (i := 113) rfl)) rfl
theorem wLY_3_0 : u_lay RX3 TX3 0 ∈ okW := ok_of (tb_2 (List.mem_of_getElem? (i := 114) rfl)) rfl
theorem wLY_3_1 : u_lay RX3 TX3 1 ∈ okW := ok_of (tb_2 (List.mem_of_getElem? (i := 116) rfl)) rfl
theorem wLY_3_2 : u_lay RX3 TX3 2 ∈ okW := ok_of (tb_2 (List.mem_of_getElem? (i := 118) rfl)) rfl
theorem wLY_3_3 : u_lay RX3 TX3 3 ∈ okW := ok_of (tb_2 (List.mem_of_getElem? (i := 120) rfl)) rfl
theorem wLY_3_4 : u_lay RX3 TX3 4 ∈ okW := ok_of (tb_2 (List.mem_of_getElem? (i := 122) rfl)) rfl
theorem wLY_3_5 : u_lay RX3 TX3 5 ∈ okW := ok_of (tb_2 (List.mem_of_getElem? (i := 124) rfl)) rfl
theorem wLY_3_6 : u_lay RX3 TX3 6 ∈ okW := ok_of (tb_2 (List.mem_of_getElem? (i := 126) rfl)) rfl
theorem wLY_3_7 : u_lay RX3 TX3 7 ∈ okW := ok_of (tb_2 (List.mem_of_getElem? (i := 128) rfl)) rfl
theorem wLY_3_8 : u_lay RX3 TX3 8 ∈ okW := ok_of (tb_2 (List.mem_of_getElem? (i := 130) rfl)) rfl
theorem wLY_3_9 : u_lay RX3 TX3 9 ∈ okW := ok_of (tb_2 (List.mem_of_getElem? (i := 132) rfl)) rfl
theorem wLY_3_10 : u_lay RX3 TX3 10 ∈ okW := ok_of (tb_2 (List.mem_of_getElem? (i := 134) rfl)) rfl
theorem wLY_3_11 : u_lay RX3 TX3 11 ∈ okW := ok_of (tb_2 (List.mem_of_getElem? (i := 136) rfl)) rfl
theorem wC_X9_41 : Cond.classLink RX9 41 RX1 ∈ okW := ok_of (tb_2 (List.mem_of_getElem? (i := 139) rfl)) rfl
theorem wIS_X1 : Cond.instantiable RX1 8 ∈ okW := ok_of (tb_2 (List.mem_of_getElem? (i := 140) rfl)) rfl
theorem wIM_X1_init : Cond.instanceMethod yX1_init ∈ okW := ok_of (tb_2 (List.mem_of_getElem? (i := 142) rfl)) rfl
theorem wCD_X1_init : Cond.code yX1_init cX1_init 1 none ∈ okW := ok_of (tb_2 (List.mem_of_getElem? (i := 143) rfl)) rfl
theorem wM_X1_3 : Cond.methodLink RX1 3 objectInit ∈ okW := ok_of (tb_2 (List.mem_of_getElem? (i := 144) rfl)) rfl
theorem wC_X1_27 : Cond.classLink RX1 27 RX2 ∈ okW := ok_of (tb_2 (List.mem_of_getElem? (i := 145) rfl)) rfl
theorem wF_X1_11 : Cond.fieldLink RX1 11 (TX1 0).1 (TX1 0).2.1 (TX1 0).2.2.1 ∈ okW := ok_of (tb_2 (List.mem_of_getElem? (i := 147) rfl)) rfl
theorem wF_X1_15 : Cond.fieldLink RX1 15 (TX1 1).1 (TX1 1).2.1 (TX1 1).2.2.1 ∈ okW := ok_of (tb_2 (List.mem_of_getElem? (i := 148) rfl)) rfl
theorem wF_X1_18 : Cond.fieldLink RX1 18 (TX1 2).1 (TX1 2).2.1 (TX1 2).2.2.1 ∈ okW := ok_of (tb_2 (List.mem_of_getElem? (i := 149) rfl)) rfl
theorem wF_X1_21 : Cond.fieldLink RX1 21 (TX1 3).1 (TX1 3).2.1 (TX1 3).2.2.1 ∈ okW := ok_of (tb_2 (List.mem_of_getElem? (i := 150) rfl)) rfl
theorem wF_X1_69 : Cond.fieldLink RX1 69 (TX1 4).1 (TX1 4).2.1 (TX1 4).2.2.1 ∈ okW := ok_of (tb_2 (List.mem_of_getElem? (i := 151) rfl)) rfl
theorem wF_X1_43 : Cond.fieldLink RX1 43 (TX1 5).1 (TX1 5).2.1 (TX1 5).2.2.1 ∈ okW := ok_of (tb_2 (List.mem_of_getElem? (i := 152) rfl)) rfl
theorem wF_X1_24 : Cond.fieldLink RX1 24 (TX1 6).1 (TX1 6).2.1 (TX1 6).2.2.1 ∈ okW := ok_of (tb_2 (List.mem_of_getElem? (i := 153) rfl)) rfl
theorem wF_X1_30 : Cond.fieldLink RX1 30 (TX1 7).1 (TX1 7).2.1 (TX1 7).2.2.1 ∈ okW := ok_of (tb_2 (List.mem_of_getElem? (i := 154) rfl)) rfl
theorem wLY_1_0 : u_lay RX1 TX1 0 ∈ okW := ok_of (tb_2 (List.mem_of_getElem? (i := 155) rfl)) rfl
theorem wLY_1_1 : u_lay RX1 TX1 1 ∈ okW := ok_of (tb_2 (List.mem_of_getElem? (i := 157) rfl)) rfl
theorem wLY_1_2 : u_lay RX1 TX1 2 ∈ okW := ok_of (tb_2 (List.mem_of_getElem? (i := 159) rfl)) rfl
theorem wLY_1_3 : u_lay RX1 TX1 3 ∈ okW := ok_of (tb_2 (List.mem_of_getElem? (i := 161) rfl)) rfl
theorem wLY_1_4 : u_lay RX1 TX1 4 ∈ okW := ok_of (tb_2 (List.mem_of_getElem? (i := 163) rfl)) rfl
theorem wLY_1_5 : u_lay RX1 TX1 5 ∈ okW := ok_of (tb_2 (List.mem_of_getElem? (i := 165) rfl)) rfl
theorem wLY_1_6 : u_lay RX1 TX1 6 ∈ okW := ok_of (tb_2 (List.mem_of_getElem? (i := 167) rfl)) rfl
theorem wLY_1_7 : u_lay RX1 TX1 7 ∈ okW := ok_of (tb_2 (List.mem_of_getElem? (i := 169) rfl)) rfl
theorem wC_X9_48 : Cond.classLink RX9 48 RX5 ∈ okW := ok_of (tb_2 (List.mem_of_getElem? (i := 172) rfl)) rfl
theorem wIS_X5 : Cond.instantiable RX5 5 ∈ okW := ok_of (tb_2 (List.mem_of_getElem? (i := 173) rfl)) rfl
theorem wIM_X5_init : Cond.instanceMethod yX5_init ∈ okW := ok_of (tb_2 (List.mem_of_getElem? (i := 175) rfl)) rfl
theorem wCD_X5_init : Cond.code yX5_init cX5_init 1 none ∈ okW := ok_of (tb_2 (List.mem_of_getElem? (i := 176) rfl)) rfl
theorem wM_X5_3 : Cond.methodLink RX5 3 objectInit ∈ okW := ok_of (tb_2 (List.mem_of_getElem? (i := 177) rfl)) rfl
theorem wF_X5_9 : Cond.fieldLink RX5 9 (TX5 0).1 (TX5 0).2.1 (TX5 0).2.2.1 ∈ okW := ok_of (tb_2 (List.mem_of_getElem? (i := 178) rfl)) rfl
theorem wF_X9_338 : Cond.fieldLink RX9 338 (TX5 0).1 (TX5 0).2.1 (TX5 0).2.2.1 ∈ okW := ok_of (tb_2 (List.mem_of_getElem? (i := 179) rfl)) rfl
theorem wF_X5_15 : Cond.fieldLink RX5 15 (TX5 1).1 (TX5 1).2.1 (TX5 1).2.2.1 ∈ okW := ok_of (tb_2 (List.mem_of_getElem? (i := 180) rfl)) rfl
theorem wF_X5_18 : Cond.fieldLink RX5 18 (TX5 2).1 (TX5 2).2.1 (TX5 2).2.2.1 ∈ okW := ok_of (tb_2 (List.mem_of_getElem? (i := 181) rfl)) rfl
theorem wF_X5_27 : Cond.fieldLink RX5 27 (TX5 3).1 (TX5 3).2.1 (TX5 3).2.2.1 ∈ okW := ok_of (tb_2 (List.mem_of_getElem? (i := 182) rfl)) rfl
theorem wF_X5_31 : Cond.fieldLink RX5 31 (TX5 4).1 (TX5 4).2.1 (TX5 4).2.2.1 ∈ okW := ok_of (tb_2 (List.mem_of_getElem? (i := 183) rfl)) rfl
theorem wLY_5_0 : u_lay RX5 TX5 0 ∈ okW := ok_of (tb_2 (List.mem_of_getElem? (i := 184) rfl)) rfl
theorem wLY_5_1 : u_lay RX5 TX5 1 ∈ okW := ok_of (tb_2 (List.mem_of_getElem? (i := 186) rfl)) rfl
theorem wLY_5_2 : u_lay RX5 TX5 2 ∈ okW := ok_of (tb_2 (List.mem_of_getElem? (i := 188) rfl)) rfl
theorem wLY_5_3 : u_lay RX5 TX5 3 ∈ okW := ok_of (tb_2 (List.mem_of_getElem? (i := 190) rfl)) rfl
theorem wLY_5_4 : u_lay RX5 TX5 4 ∈ okW := ok_of (tb_2 (List.mem_of_getElem? (i := 192) rfl)) rfl
theorem wF_X9_12 : Cond.fieldLink RX9 12 (TX9 0).1 (TX9 0).2.1 (TX9 0).2.2.1 ∈ okW := ok_of (tb_2 (List.mem_of_getElem? (i := 195) rfl)) rfl
theorem wF_X9_348 : Cond.fieldLink RX9 348 (TX9 1).1 (TX9 1).2.1 (TX9 1).2.2.1 ∈ okW := ok_of (tb_2 (List.mem_of_getElem? (i := 196) rfl)) rfl
theorem wF_X9_16 : Cond.fieldLink RX9 16 (TX9 2).1 (TX9 2).2.1 (TX9 2).2.2.1 ∈ okW := ok_of (tb_2 (List.mem_of_getElem? (i := 197) rfl)) rfl
theorem wF_X9_105 : Cond.fieldLink RX9 105 (TX9 3).1 (TX9 3).2.1 (TX9 3).2.2.1 ∈ okW := ok_of (tb_2 (List.mem_of_getElem? (i := 198) rfl)) rfl
theorem wF_X9_23 : Cond.fieldLink RX9 23 (TX9 4).1 (TX9 4).2.1 (TX9 4).2.2.1 ∈ okW := ok_of (tb_2 (List.mem_of_getElem? (i := 199) rfl)) rfl
theorem wF_X9_30 : Cond.fieldLink RX9 30 (TX9 5).1 (TX9 5).2.1 (TX9 5).2.2.1 ∈ okW := ok_of (tb_2 (List.mem_of_getElem? (i := 200) rfl)) rfl
theorem wF_X9_37 : Cond.fieldLink RX9 37 (TX9 6).1 (TX9 6).2.1 (TX9 6).2.2.1 ∈ okW := ok_of (tb_2 (List.mem_of_getElem? (i := 201) rfl)) rfl
theorem wF_X9_44 : Cond.fieldLink RX9 44 (TX9 7).1 (TX9 7).2.1 (TX9 7).2.2.1 ∈ okW := ok_of (tb_2 (List.mem_of_getElem? (i := 202) rfl)) rfl
theorem wF_X9_51 : Cond.fieldLink RX9 51 (TX9 8).1 (TX9 8).2.1 (TX9 8).2.2.1 ∈ okW := ok_of (tb_2 (List.mem_of_getElem? (i := 203) rfl)) rfl
theorem wF_X9_55 : Cond.fieldLink RX9 55 (TX9 9).1 (TX9 9).2.1 (TX9 9).2.2.1 ∈ okW := ok_of (tb_2 (List.mem_of_getElem? (i := 204) rfl)) rfl
theorem wF_X9_58 : Cond.fieldLink RX9 58 (TX9 10).1 (TX9 10).2.1 (TX9 10).2.2.1 ∈ okW := ok_of (tb_2 (List.mem_of_getElem? (i := 205) rfl)) rfl
theorem wF_X9_61 : Cond.fieldLink RX9 61 (TX9 11).1 (TX9 11).2.1 (TX9 11).2.2.1 ∈ okW := ok_of (tb_2 (List.mem_of_getElem? (i := 206) rfl)) rfl
theorem wLY_9_0 : u_lay RX9 TX9 0 ∈ okW := ok_of (tb_2 (List.mem_of_getElem? (i := 207) rfl)) rfl
theorem wLY_9_1 : u_lay RX9 TX9 1 ∈ okW := ok_of (tb_2 (List.mem_of_getElem? (i := 209) rfl)) rfl
theorem wLY_9_2 : u_lay RX9 TX9 2 ∈ okW := ok_of (tb_2 (List.mem_of_getElem? (i := 211) rfl)) rfl
theorem wLY_9_3 : u_lay RX9 TX9 3 ∈ okW := ok_of (tb_2 (List.mem_of_getElem? (i := 213) rfl)) rfl
theorem wLY_9_4 : u_lay RX9 TX9 4 ∈ okW := ok_of (tb_2 (List.mem_of_getElem? (i := 215) rfl)) rfl
theorem wLY_9_5 : u_lay RX9 TX9 5 ∈ okW := ok_of (tb_2 (List.mem_of_getElem? (i := 217) rfl)) rfl
theorem wLY_9_6 : u_lay RX9 TX9 6 ∈ okW := ok_of (tb_2 (List.mem_of_getElem? (i := 219) rfl)) rfl
theorem wLY_9_7 : u_lay RX9 TX9 7 ∈ okW := ok_of (tb_2 (List.mem_of_getElem? (i := 221) rfl)) rfl
theorem wLY_9_8 : u_lay RX9 TX9 8 ∈ okW := ok_of (tb_2 (List.mem_of_getElem? (i := 223) rfl)) rfl
theorem wLY_9_9 : u_lay RX9 TX9 9 ∈ okW := ok_of (tb_2 (List.mem_of_getElem? (i := 225) rfl)) rfl
theorem wLY_9_10 : u_lay RX9 TX9 10 ∈ okW := ok_of (tb_2 (List.mem_of_getElem? (i := 227) rfl)) rfl
theorem wLY_9_11 : u_lay RX9 TX9 11 ∈ okW := ok_of (tb_2 (List.mem_of_getElem? (i := 229) rfl)) rfl
theorem wM_L_13 : Cond.methodLink RL 13 yX9_bar ∈ okW := ok_of (tb_2 (List.mem_of_getElem? (i := 232) rfl)) rfl
theorem wIM_X9_bar : Cond.instanceMethod yX9_bar ∈ okW := ok_of (tb_2 (List.mem_of_getElem? (i := 233) rfl)) rfl
theorem wSE_X9_bar : Cond.selects yX9_bar.cls yX9_bar yX9_bar ∈ okW := ok_of (tb_2 (List.mem_of_getElem? (i := 234) rfl)) rfl
theorem wCD_X9_bar : Cond.code yX9_bar cX9_bar 2 (some .int) ∈ okW := ok_of (tb_2 (List.mem_of_getElem? (i := 235) rfl)) rfl
theorem wM_X9_72 : Cond.methodLink RX9 72 yX0_begin ∈ okW := ok_of (tb_2 (List.mem_of_getElem? (i := 236) rfl)) rfl
theorem wIM_X0_begin : Cond.instanceMethod yX0_begin ∈ okW := ok_of (tb_2 (List.mem_of_getElem? (i := 237) rfl)) rfl
theorem wSE_X0_begin : Cond.selects yX0_begin.cls yX0_begin yX0_begin ∈ okW := ok_of (tb_2 (List.mem_of_getElem? (i := 238) rfl)) rfl
theorem wCD_X0_begin : Cond.code yX0_begin cX0_begin 2 none ∈ okW := ok_of (tb_2 (List.mem_of_getElem? (i := 239) rfl)) rfl
theorem wM_X0_54 : Cond.methodLink RX0 54 yJ7_fill_53178 ∈ okW := ok_of (tb_3 (List.mem_of_getElem? (i := 0) rfl)) rfl
theorem wST_J7_fill_53178 : Cond.static yJ7_fill_53178 ∈ okW := ok_of (tb_3 (List.mem_of_getElem? (i := 1) rfl)) rfl
theorem wCD_J7_fill_53178 : Cond.code yJ7_fill_53178 cJ7_fill_53178 4 none ∈ okW := ok_of (tb_3 (List.mem_of_getElem? (i := 2) rfl)) rfl
theorem wM_L_18 : Cond.methodLink RL 18 yX9_slice ∈ okW := ok_of (tb_3 (List.mem_of_getElem? (i := 3) rfl)) rfl
theorem wIM_X9_slice : Cond.instanceMethod yX9_slice ∈ okW := ok_of (tb_3 (List.mem_of_getElem? (i := 4) rfl)) rfl
theorem wSE_X9_slice : Cond.selects yX9_slice.cls yX9_slice yX9_slice ∈ okW := ok_of (tb_3 (List.mem_of_getElem? (i := 5) rfl)) rfl
theorem wCD_X9_slice : Cond.code yX9_slice cX9_slice 7 (some .boolean) ∈ okW := ok_of (tb_3 (List.mem_of_getElem? (i := 6) rfl)) rfl
theorem wM_X9_78 : Cond.methodLink RX9 78 yX9_barAt ∈ okW := ok_of (tb_3 (List.mem_of_getElem? (i := 7) rfl)) rfl
theorem wIM_X9_barAt : Cond.instanceMethod yX9_barAt ∈ okW := ok_of (tb_3 (List.mem_of_getElem? (i := 9) rfl)) rfl
theorem wCD_X9_barAt : Cond.code yX9_barAt cX9_barAt 2 (some (.object "RingBars$Bar")) ∈ okW := ok_of (tb_3 (List.mem_of_getElem? (i := 10) rfl)) rfl
theorem wM_X9_89 : Cond.methodLink RX9 89 yX9_within ∈ okW := ok_of (tb_3 (List.mem_of_getElem? (i := 11) rfl)) rfl
theorem wST_X9_within : Cond.static yX9_within ∈ okW := ok_of (tb_3 (List.mem_of_getElem? (i := 12) rfl)) rfl
theorem wCD_X9_within : Cond.code yX9_within cX9_within 3 (some .boolean) ∈ okW := ok_of (tb_3 (List.mem_of_getElem? (i := 13) rfl)) rfl
theorem wM_X9_82 : Cond.methodLink RX9 82 yX0_has ∈ okW := ok_of (tb_3 (List.mem_of_getElem? (i := 14) rfl)) rfl
theorem wIM_X0_has : Cond.instanceMethod yX0_has ∈ okW := ok_of (tb_3 (List.mem_of_getElem? (i := 15) rfl)) rfl
theorem wSE_X0_has : Cond.selects yX0_has.cls yX0_has yX0_has ∈ okW := ok_of (tb_3 (List.mem_of_getElem? (i := 16) rfl)) rfl
theorem wCD_X0_has : Cond.code yX0_has cX0_has 2 (some .boolean) ∈ okW := ok_of (tb_3 (List.mem_of_getElem? (i := 17) rfl)) rfl
theorem wM_L_23 : Cond.methodLink RL 23 yX9_wax ∈ okW := ok_of (tb_3 (List.mem_of_getElem? (i := 18) rfl)) rfl
theorem wIM_X9_wax : Cond.instanceMethod yX9_wax ∈ okW := ok_of (tb_3 (List.mem_of_getElem? (i := 19) rfl)) rfl
theorem wSE_X9_wax : Cond.selects yX9_wax.cls yX9_wax yX9_wax ∈ okW := ok_of (tb_3 (List.mem_of_getElem? (i := 20) rfl)) rfl
theorem wCD_X9_wax : Cond.code yX9_wax cX9_wax 5 (some .boolean) ∈ okW := ok_of (tb_3 (List.mem_of_getElem? (i := 21) rfl)) rfl
theorem wM_L_28 : Cond.methodLink RL 28 yX9_of ∈ okW := ok_of (tb_3 (List.mem_of_getElem? (i := 22) rfl)) rfl
theorem wIM_X9_of : Cond.instanceMethod yX9_of ∈ okW := ok_of (tb_3 (List.mem_of_getElem? (i := 23) rfl)) rfl
theorem wSE_X9_of : Cond.selects yX9_of.cls yX9_of yX9_of ∈ okW := ok_of (tb_3 (List.mem_of_getElem? (i := 24) rfl)) rfl
theorem wCD_X9_of : Cond.code yX9_of cX9_of 5 (some .int) ∈ okW := ok_of (tb_3 (List.mem_of_getElem? (i := 25) rfl)) rfl
theorem wM_L_33 : Cond.methodLink RL 33 yX9_feed ∈ okW := ok_of (tb_3 (List.mem_of_getElem? (i := 26) rfl)) rfl
theorem wIM_X9_feed : Cond.instanceMethod yX9_feed ∈ okW := ok_of (tb_3 (List.mem_of_getElem? (i := 27) rfl)) rfl
theorem wSE_X9_feed : Cond.selects yX9_feed.cls yX9_feed yX9_feed ∈ okW := ok_of (tb_3 (List.mem_of_getElem? (i := 28) rfl)) rfl
theorem wCD_X9_feed : Cond.code yX9_feed cX9_feed 6 (some .int) ∈ okW := ok_of (tb_3 (List.mem_of_getElem? (i := 29) rfl)) rfl
theorem wM_X9_108 : Cond.methodLink RX9 108 yX9_addBytes ∈ okW := ok_of (tb_3 (List.mem_of_getElem? (i := 30) rfl)) rfl
theorem wIM_X9_addBytes : Cond.instanceMethod yX9_addBytes ∈ okW := ok_of (tb_3 (List.mem_of_getElem? (i := 32) rfl)) rfl
theorem wCD_X9_addBytes : Cond.code yX9_addBytes cX9_addBytes 3 none ∈ okW := ok_of (tb_3 (List.mem_of_getElem? (i := 33) rfl)) rfl
theorem wM_L_38 : Cond.methodLink RL 38 yX9_end ∈ okW := ok_of (tb_3 (List.mem_of_getElem? (i := 34) rfl)) rfl
theorem wIM_X9_end : Cond.instanceMethod yX9_end ∈ okW := ok_of (tb_3 (List.mem_of_getElem? (i := 35) rfl)) rfl
theorem wSE_X9_end : Cond.selects yX9_end.cls yX9_end yX9_end ∈ okW := ok_of (tb_3 (List.mem_of_getElem? (i := 36) rfl)) rfl
theorem wCD_X9_end : Cond.code yX9_end cX9_end 2 (some .boolean) ∈ okW := ok_of (tb_3 (List.mem_of_getElem? (i := 37) rfl)) rfl
theorem wM_L_43 : Cond.methodLink RL 43 yX9_text ∈ okW := ok_of (tb_3 (List.mem_of_getElem? (i := 38) rfl)) rfl
theorem wIM_X9_text : Cond.instanceMethod yX9_text ∈ okW := ok_of (tb_3 (List.mem_of_getElem? (i := 39) rfl)) rfl
theorem wSE_X9_text : Cond.selects yX9_text.cls yX9_text yX9_text ∈ okW := ok_of (tb_3 (List.mem_of_getElem? (i := 40) rfl)) rfl
theorem wCD_X9_text : Cond.code yX9_text cX9_text 6 (some .int) ∈ okW := ok_of (tb_3 (List.mem_of_getElem? (i := 41) rfl)) rfl
theorem wM_X9_117 : Cond.methodLink RX9 117 yX9_textAt ∈ okW := ok_of (tb_3 (List.mem_of_getElem? (i := 42) rfl)) rfl
theorem wIM_X9_textAt : Cond.instanceMethod yX9_textAt ∈ okW := ok_of (tb_3 (List.mem_of_getElem? (i := 44) rfl)) rfl
theorem wCD_X9_textAt : Cond.code yX9_textAt cX9_textAt 3 (some (.object "RingBars$Text")) ∈ okW := ok_of (tb_3 (List.mem_of_getElem? (i := 45) rfl)) rfl
theorem wM_X9_121 : Cond.methodLink RX9 121 yX4_start ∈ okW := ok_of (tb_3 (List.mem_of_getElem? (i := 46) rfl)) rfl
theorem wIM_X4_start : Cond.instanceMethod yX4_start ∈ okW := ok_of (tb_3 (List.mem_of_getElem? (i := 47) rfl)) rfl
theorem wSE_X4_start : Cond.selects yX4_start.cls yX4_start yX4_start ∈ okW := ok_of (tb_3 (List.mem_of_getElem? (i := 48) rfl)) rfl
theorem wCD_X4_start : Cond.code yX4_start cX4_start 7 none ∈ okW := ok_of (tb_3 (List.mem_of_getElem? (i := 49) rfl)) rfl
theorem wM_X4_39 : Cond.methodLink RX4 39 yX7_clear ∈ okW := ok_of (tb_3 (List.mem_of_getElem? (i := 50) rfl)) rfl
theorem wIM_X7_clear : Cond.instanceMethod yX7_clear ∈ okW := ok_of (tb_3 (List.mem_of_getElem? (i := 51) rfl)) rfl
theorem wSE_X7_clear : Cond.selects yX7_clear.cls yX7_clear yX7_clear ∈ okW := ok_of (tb_3 (List.mem_of_getElem? (i := 52) rfl)) rfl
theorem wCD_X7_clear : Cond.code yX7_clear cX7_clear 1 none ∈ okW := ok_of (tb_3 (List.mem_of_getElem? (i := 53) rfl)) rfl
theorem wM_X4_48 : Cond.methodLink RX4 48 yX4_isLetter ∈ okW := ok_of (tb_3 (List.mem_of_getElem? (i := 54) rfl)) rfl
theorem wST_X4_isLetter : Cond.static yX4_isLetter ∈ okW := ok_of (tb_3 (List.mem_of_getElem? (i := 55) rfl)) rfl
theorem wCD_X4_isLetter : Cond.code yX4_isLetter cX4_isLetter 1 (some .boolean) ∈ okW := ok_of (tb_3 (List.mem_of_getElem? (i := 56) rfl)) rfl
theorem wM_X4_52 : Cond.methodLink RX4 52 yX4_wordAt ∈ okW := ok_of (tb_3 (List.mem_of_getElem? (i := 57) rfl)) rfl
theorem wST_X4_wordAt : Cond.static yX4_wordAt ∈ okW := ok_of (tb_3 (List.mem_of_getElem? (i := 58) rfl)) rfl
theorem wCD_X4_wordAt : Cond.code yX4_wordAt cX4_wordAt 4 (some .int) ∈ okW := ok_of (tb_3 (List.mem_of_getElem? (i := 59) rfl)) rfl
theorem wM_X4_69 : Cond.methodLink RX4 69 yX4_isWord ∈ okW := ok_of (tb_3 (List.mem_of_getElem? (i := 60) rfl)) rfl
theorem wST_X4_isWord : Cond.static yX4_isWord ∈ okW := ok_of (tb_3 (List.mem_of_getElem? (i := 61) rfl)) rfl
theorem wCD_X4_isWord : Cond.code yX4_isWord cX4_isWord 6 (some .boolean) ∈ okW := ok_of (tb_3 (List.mem_of_getElem? (i := 62) rfl)) rfl
theorem wM_X4_75 : Cond.methodLink RX4 75 yJ0_charAt_5068e ∈ okW := ok_of (tb_3 (List.mem_of_getElem? (i := 64) rfl)) rfl
theorem wIM_J0_charAt_5068e : Cond.instanceMethod yJ0_charAt_5068e ∈ okW := ok_of (tb_3 (List.mem_of_getElem? (i := 65) rfl)) rfl
theorem wSE_J0_charAt_5068e : Cond.selects yJ0_charAt_5068e.cls yJ0_charAt_5068e yJ0_charAt_5068e ∈ okW := ok_of (tb_3 (List.mem_of_getElem? (i := 66) rfl)) rfl
theorem wCD_J0_charAt_5068e : Cond.code yJ0_charAt_5068e cJ0_charAt_5068e 2 (some .char) ∈ okW := ok_of (tb_3 (List.mem_of_getElem? (i := 67) rfl)) rfl
theorem wM_J0_492 : Cond.methodLink RJ0 492 yJ0_isLatin1_aae02 ∈ okW := ok_of (tb_3 (List.mem_of_getElem? (i := 68) rfl)) rfl
theorem wIM_J0_isLatin1_aae02 : Cond.instanceMethod yJ0_isLatin1_aae02 ∈ okW := ok_of (tb_3 (List.mem_of_getElem? (i := 69) rfl)) rfl
theorem wSE_J0_isLatin1_aae02 : Cond.selects yJ0_isLatin1_aae02.cls yJ0_isLatin1_aae02 yJ0_isLatin1_aae02 ∈ okW := ok_of (tb_3 (List.mem_of_getElem? (i := 70) rfl)) rfl
theorem wCD_J0_isLatin1_aae02 : Cond.code yJ0_isLatin1_aae02 cJ0_isLatin1_aae02 1 (some .boolean) ∈ okW := ok_of (tb_3 (List.mem_of_getElem? (i := 71) rfl)) rfl
theorem wM_J0_495 : Cond.methodLink RJ0 495 yJ1_charAt_3b067 ∈ okW := ok_of (tb_3 (List.mem_of_getElem? (i := 74) rfl)) rfl
theorem wST_J1_charAt_3b067 : Cond.static yJ1_charAt_3b067 ∈ okW := ok_of (tb_3 (List.mem_of_getElem? (i := 75) rfl)) rfl
theorem wCD_J1_charAt_3b067 : Cond.code yJ1_charAt_3b067 cJ1_charAt_3b067 2 (some .char) ∈ okW := ok_of (tb_3 (List.mem_of_getElem? (i := 76) rfl)) rfl
theorem wM_J1_9 : Cond.methodLink RJ1 9 yJ0_checkIndex_df160 ∈ okW := ok_of (tb_3 (List.mem_of_getElem? (i := 77) rfl)) rfl
theorem wST_J0_checkIndex_df160 : Cond.static yJ0_checkIndex_df160 ∈ okW := ok_of (tb_3 (List.mem_of_getElem? (i := 78) rfl)) rfl
theorem wCD_J0_checkIndex_df160 : Cond.code yJ0_checkIndex_df160 cJ0_checkIndex_df160 2 none ∈ okW := ok_of (tb_3 (List.mem_of_getElem? (i := 79) rfl)) rfl
theorem wM_J0_1059 : Cond.methodLink RJ0 1059 yJ3_checkIndex_8e157 ∈ okW := ok_of (tb_3 (List.mem_of_getElem? (i := 82) rfl)) rfl
theorem wST_J3_checkIndex_8e157 : Cond.static yJ3_checkIndex_8e157 ∈ okW := ok_of (tb_3 (List.mem_of_getElem? (i := 83) rfl)) rfl
theorem wCD_J3_checkIndex_8e157 : Cond.code yJ3_checkIndex_8e157 cJ3_checkIndex_8e157 3 (some .int) ∈ okW := ok_of (tb_3 (List.mem_of_getElem? (i := 84) rfl)) rfl
theorem wM_J0_498 : Cond.methodLink RJ0 498 yJ2_charAt_3b067 ∈ okW := ok_of (tb_3 (List.mem_of_getElem? (i := 85) rfl)) rfl
theorem wST_J2_charAt_3b067 : Cond.static yJ2_charAt_3b067 ∈ okW := ok_of (tb_3 (List.mem_of_getElem? (i := 86) rfl)) rfl
theorem wCD_J2_charAt_3b067 : Cond.code yJ2_charAt_3b067 cJ2_charAt_3b067 2 (some .char) ∈ okW := ok_of (tb_3 (List.mem_of_getElem? (i := 87) rfl)) rfl
theorem wM_J2_67 : Cond.methodLink RJ2 67 yJ2_checkIndex_2214a ∈ okW := ok_of (tb_3 (List.mem_of_getElem? (i := 88) rfl)) rfl
theorem wST_J2_checkIndex_2214a : Cond.static yJ2_checkIndex_2214a ∈ okW := ok_of (tb_3 (List.mem_of_getElem? (i := 89) rfl)) rfl
theorem wCD_J2_checkIndex_2214a : Cond.code yJ2_checkIndex_2214a cJ2_checkIndex_2214a 2 none ∈ okW := ok_of (tb_3 (List.mem_of_getElem? (i := 90) rfl)) rfl
theorem wM_J2_48 : Cond.methodLink RJ2 48 yJ2_length_9d52b ∈ okW := ok_of (tb_3 (List.mem_of_getElem? (i := 91) rfl)) rfl
theorem wST_J2_length_9d52b : Cond.static yJ2_length_9d52b ∈ okW := ok_of (tb_3 (List.mem_of_getElem? (i := 92) rfl)) rfl
theorem wCD_J2_length_9d52b : Cond.code yJ2_length_9d52b cJ2_length_9d52b 1 (some .int) ∈ okW := ok_of (tb_3 (List.mem_of_getElem? (i := 93) rfl)) rfl
theorem wM_J2_414 : Cond.methodLink RJ2 414 yJ0_checkIndex_df160 ∈ okW := ok_of (tb_3 (List.mem_of_getElem? (i := 94) rfl)) rfl
theorem wM_J2_71 : Cond.methodLink RJ2 71 yJ2_getChar_3b067 ∈ okW := ok_of (tb_3 (List.mem_of_getElem? (i := 95) rfl)) rfl
theorem wST_J2_getChar_3b067 : Cond.static yJ2_getChar_3b067 ∈ okW := ok_of (tb_3 (List.mem_of_getElem? (i := 96) rfl)) rfl
theorem wCD_J2_getChar_3b067 : Cond.code yJ2_getChar_3b067 cJ2_getChar_3b067 2 (some .char) ∈ okW := ok_of (tb_3 (List.mem_of_getElem? (i := 97) rfl)) rfl
theorem wM_X4_56 : Cond.methodLink RX4 56 yX4_addToken ∈ okW := ok_of (tb_3 (List.mem_of_getElem? (i := 104) rfl)) rfl
theorem wIM_X4_addToken : Cond.instanceMethod yX4_addToken ∈ okW := ok_of (tb_3 (List.mem_of_getElem? (i := 106) rfl)) rfl
theorem wCD_X4_addToken : Cond.code yX4_addToken cX4_addToken 4 none ∈ okW := ok_of (tb_3 (List.mem_of_getElem? (i := 107) rfl)) rfl
theorem wM_X4_60 : Cond.methodLink RX4 60 yX4_isDigit ∈ okW := ok_of (tb_3 (List.mem_of_getElem? (i := 108) rfl)) rfl
theorem wST_X4_isDigit : Cond.static yX4_isDigit ∈ okW := ok_of (tb_3 (List.mem_of_getElem? (i := 109) rfl)) rfl
theorem wCD_X4_isDigit : Cond.code yX4_isDigit cX4_isDigit 1 (some .boolean) ∈ okW := ok_of (tb_3 (List.mem_of_getElem? (i := 110) rfl)) rfl
theorem wM_X4_63 : Cond.methodLink RX4 63 yX4_numberAt ∈ okW := ok_of (tb_3 (List.mem_of_getElem? (i := 111) rfl)) rfl
theorem wST_X4_numberAt : Cond.static yX4_numberAt ∈ okW := ok_of (tb_3 (List.mem_of_getElem? (i := 112) rfl)) rfl
theorem wCD_X4_numberAt : Cond.code yX4_numberAt cX4_numberAt 5 (some .int) ∈ okW := ok_of (tb_3 (List.mem_of_getElem? (i := 113) rfl)) rfl
theorem wM_X4_66 : Cond.methodLink RX4 66 yX4_isSign ∈ okW := ok_of (tb_3 (List.mem_of_getElem? (i := 114) rfl)) rfl
theorem wST_X4_isSign : Cond.static yX4_isSign ∈ okW := ok_of (tb_3 (List.mem_of_getElem? (i := 115) rfl)) rfl
theorem wCD_X4_isSign : Cond.code yX4_isSign cX4_isSign 1 (some .boolean) ∈ okW := ok_of (tb_3 (List.mem_of_getElem? (i := 116) rfl)) rfl
theorem wM_X9_125 : Cond.methodLink RX9 125 yX4_goesOn ∈ okW := ok_of (tb_3 (List.mem_of_getElem? (i := 117) rfl)) rfl
theorem wIM_X4_goesOn : Cond.instanceMethod yX4_goesOn ∈ okW := ok_of (tb_3 (List.mem_of_getElem? (i := 118) rfl)) rfl
theorem wSE_X4_goesOn : Cond.selects yX4_goesOn.cls yX4_goesOn yX4_goesOn ∈ okW := ok_of (tb_3 (List.mem_of_getElem? (i := 119) rfl)) rfl
theorem wCD_X4_goesOn : Cond.code yX4_goesOn cX4_goesOn 1 (some .boolean) ∈ okW := ok_of (tb_3 (List.mem_of_getElem? (i := 120) rfl)) rfl
theorem wM_X9_129 : Cond.methodLink RX9 129 yX4_line ∈ okW := ok_of (tb_3 (List.mem_of_getElem? (i := 121) rfl)) rfl
theorem wIM_X4_line : Cond.instanceMethod yX4_line ∈ okW := ok_of (tb_3 (List.mem_of_getElem? (i := 122) rfl)) rfl
theorem wSE_X4_line : Cond.selects yX4_line.cls yX4_line yX4_line ∈ okW := ok_of (tb_3 (List.mem_of_getElem? (i := 123) rfl)) rfl
theorem wCD_X4_line : Cond.code yX4_line cX4_line 3 (some .boolean) ∈ okW := ok_of (tb_3 (List.mem_of_getElem? (i := 124) rfl)) rfl
theorem wM_X4_81 : Cond.methodLink RX4 81 yX4_refuse ∈ okW := ok_of (tb_3 (List.mem_of_getElem? (i := 125) rfl)) rfl
theorem wIM_X4_refuse : Cond.instanceMethod yX4_refuse ∈ okW := ok_of (tb_3 (List.mem_of_getElem? (i := 127) rfl)) rfl
theorem wCD_X4_refuse : Cond.code yX4_refuse cX4_refuse 2 (some .boolean) ∈ okW := ok_of (tb_3 (List.mem_of_getElem? (i := 128) rfl)) rfl
theorem wM_X4_99 : Cond.methodLink RX4 99 yX4_lawHead ∈ okW := ok_of (tb_3 (List.mem_of_getElem? (i := 129) rfl)) rfl
theorem wIM_X4_lawHead : Cond.instanceMethod yX4_lawHead ∈ okW := ok_of (tb_3 (List.mem_of_getElem? (i := 131) rfl)) rfl
theorem wCD_X4_lawHead : Cond.code yX4_lawHead cX4_lawHead 3 (some .boolean) ∈ okW := ok_of (tb_3 (List.mem_of_getElem? (i := 132) rfl)) rfl
theorem wM_X4_119 : Cond.methodLink RX4 119 yX4_number ∈ okW := ok_of (tb_3 (List.mem_of_getElem? (i := 133) rfl)) rfl
theorem wIM_X4_number : Cond.instanceMethod yX4_number ∈ okW := ok_of (tb_3 (List.mem_of_getElem? (i := 135) rfl)) rfl
theorem wCD_X4_number : Cond.code yX4_number cX4_number 3 (some .boolean) ∈ okW := ok_of (tb_3 (List.mem_of_getElem? (i := 136) rfl)) rfl
theorem wM_X4_103 : Cond.methodLink RX4 103 yX4_sum ∈ okW := ok_of (tb_3 (List.mem_of_getElem? (i := 137) rfl)) rfl
theorem wIM_X4_sum : Cond.instanceMethod yX4_sum ∈ okW := ok_of (tb_3 (List.mem_of_getElem? (i := 139) rfl)) rfl
theorem wCD_X4_sum : Cond.code yX4_sum cX4_sum 3 (some .boolean) ∈ okW := ok_of (tb_3 (List.mem_of_getElem? (i := 140) rfl)) rfl
theorem wM_X4_141 : Cond.methodLink RX4 141 yX4_term ∈ okW := ok_of (tb_3 (List.mem_of_getElem? (i := 141) rfl)) rfl
theorem wIM_X4_term : Cond.instanceMethod yX4_term ∈ okW := ok_of (tb_3 (List.mem_of_getElem? (i := 143) rfl)) rfl
theorem wCD_X4_term : Cond.code yX4_term cX4_term 5 (some .boolean) ∈ okW := ok_of (tb_3 (List.mem_of_getElem? (i := 144) rfl)) rfl
theorem wM_X4_144 : Cond.methodLink RX4 144 yX4_isUnit ∈ okW := ok_of (tb_3 (List.mem_of_getElem? (i := 145) rfl)) rfl
theorem wIM_X4_isUnit : Cond.instanceMethod yX4_isUnit ∈ okW := ok_of (tb_3 (List.mem_of_getElem? (i := 147) rfl)) rfl
theorem wCD_X4_isUnit : Cond.code yX4_isUnit cX4_isUnit 2 (some .boolean) ∈ okW := ok_of (tb_3 (List.mem_of_getElem? (i := 148) rfl)) rfl
theorem wM_X4_131 : Cond.methodLink RX4 131 yX7_addStep ∈ okW := ok_of (tb_3 (List.mem_of_getElem? (i := 149) rfl)) rfl
theorem wIM_X7_addStep : Cond.instanceMethod yX7_addStep ∈ okW := ok_of (tb_3 (List.mem_of_getElem? (i := 150) rfl)) rfl
theorem wSE_X7_addStep : Cond.selects yX7_addStep.cls yX7_addStep yX7_addStep ∈ okW := ok_of (tb_3 (List.mem_of_getElem? (i := 151) rfl)) rfl
theorem wCD_X7_addStep : Cond.code yX7_addStep cX7_addStep 3 none ∈ okW := ok_of (tb_3 (List.mem_of_getElem? (i := 152) rfl)) rfl
theorem wK_X7_43 : Cond.constant RX7 43 (100000) ∈ okW := ok_of (tb_3 (List.mem_of_getElem? (i := 153) rfl)) rfl
theorem wM_X4_107 : Cond.methodLink RX4 107 yX4_jobHead ∈ okW := ok_of (tb_3 (List.mem_of_getElem? (i := 154) rfl)) rfl
theorem wIM_X4_jobHead : Cond.instanceMethod yX4_jobHead ∈ okW := ok_of (tb_3 (List.mem_of_getElem? (i := 156) rfl)) rfl
theorem wCD_X4_jobHead : Cond.code yX4_jobHead cX4_jobHead 3 (some .boolean) ∈ okW := ok_of (tb_3 (List.mem_of_getElem? (i := 157) rfl)) rfl
theorem wM_X4_113 : Cond.methodLink RX4 113 yX4_either ∈ okW := ok_of (tb_3 (List.mem_of_getElem? (i := 158) rfl)) rfl
theorem wIM_X4_either : Cond.instanceMethod yX4_either ∈ okW := ok_of (tb_3 (List.mem_of_getElem? (i := 160) rfl)) rfl
theorem wCD_X4_either : Cond.code yX4_either cX4_either 3 (some .boolean) ∈ okW := ok_of (tb_3 (List.mem_of_getElem? (i := 161) rfl)) rfl
theorem wM_X4_128 : Cond.methodLink RX4 128 yX4_both ∈ okW := ok_of (tb_3 (List.mem_of_getElem? (i := 162) rfl)) rfl
theorem wIM_X4_both : Cond.instanceMethod yX4_both ∈ okW := ok_of (tb_3 (List.mem_of_getElem? (i := 164) rfl)) rfl
theorem wCD_X4_both : Cond.code yX4_both cX4_both 3 (some .boolean) ∈ okW := ok_of (tb_3 (List.mem_of_getElem? (i := 165) rfl)) rfl
theorem wM_X4_135 : Cond.methodLink RX4 135 yX4_part ∈ okW := ok_of (tb_3 (List.mem_of_getElem? (i := 166) rfl)) rfl
theorem wIM_X4_part : Cond.instanceMethod yX4_part ∈ okW := ok_of (tb_3 (List.mem_of_getElem? (i := 168) rfl)) rfl
theorem wCD_X4_part : Cond.code yX4_part cX4_part 4 (some .boolean) ∈ okW := ok_of (tb_3 (List.mem_of_getElem? (i := 169) rfl)) rfl
theorem wM_X4_138 : Cond.methodLink RX4 138 yX4_opened ∈ okW := ok_of (tb_3 (List.mem_of_getElem? (i := 170) rfl)) rfl
theorem wIM_X4_opened : Cond.instanceMethod yX4_opened ∈ okW := ok_of (tb_3 (List.mem_of_getElem? (i := 172) rfl)) rfl
theorem wCD_X4_opened : Cond.code yX4_opened cX4_opened 3 (some .boolean) ∈ okW := ok_of (tb_3 (List.mem_of_getElem? (i := 173) rfl)) rfl
theorem wM_X9_138 : Cond.methodLink RX9 138 yX7_copyFrom ∈ okW := ok_of (tb_3 (List.mem_of_getElem? (i := 174) rfl)) rfl
theorem wIM_X7_copyFrom : Cond.instanceMethod yX7_copyFrom ∈ okW := ok_of (tb_3 (List.mem_of_getElem? (i := 175) rfl)) rfl
theorem wSE_X7_copyFrom : Cond.selects yX7_copyFrom.cls yX7_copyFrom yX7_copyFrom ∈ okW := ok_of (tb_3 (List.mem_of_getElem? (i := 176) rfl)) rfl
theorem wCD_X7_copyFrom : Cond.code yX7_copyFrom cX7_copyFrom 2 none ∈ okW := ok_of (tb_3 (List.mem_of_getElem? (i := 177) rfl)) rfl
theorem wM_X7_44 : Cond.methodLink RX7 44 ⟨"java/lang/System", "arraycopy", "(Ljava/lang/Object;ILjava/lang/Object;II)V"⟩ ∈ okW := ok_of (tb_3 (List.mem_of_getElem? (i := 178) rfl)) rfl
theorem wST_arraycopy : Cond.static ⟨"java/lang/System", "arraycopy", "(Ljava/lang/Object;ILjava/lang/Object;II)V"⟩ ∈ okW := ok_of (tb_3 (List.mem_of_getElem? (i := 179) rfl)) rfl
theorem wNT_arraycopy : Cond.native ⟨"java/lang/System", "arraycopy", "(Ljava/lang/Object;ILjava/lang/Object;II)V"⟩ ∈ okW := ok_of (tb_3 (List.mem_of_getElem? (i := 180) rfl)) rfl
theorem wAC_byte : Cond.arrayClass .byte ∈ okW := ok_of (tb_3 (List.mem_of_getElem? (i := 181) rfl)) rfl
theorem wM_L_48 : Cond.methodLink RL 48 yX9_fault ∈ okW := ok_of (tb_3 (List.mem_of_getElem? (i := 182) rfl)) rfl
theorem wIM_X9_fault : Cond.instanceMethod yX9_fault ∈ okW := ok_of (tb_3 (List.mem_of_getElem? (i := 183) rfl)) rfl
theorem wSE_X9_fault : Cond.selects yX9_fault.cls yX9_fault yX9_fault ∈ okW := ok_of (tb_3 (List.mem_of_getElem? (i := 184) rfl)) rfl
theorem wCD_X9_fault : Cond.code yX9_fault cX9_fault 2 (some .int) ∈ okW := ok_of (tb_3 (List.mem_of_getElem? (i := 185) rfl)) rfl
theorem wM_L_52 : Cond.methodLink RL 52 yX9_force ∈ okW := ok_of (tb_3 (List.mem_of_getElem? (i := 186) rfl)) rfl
theorem wIM_X9_force : Cond.instanceMethod yX9_force ∈ okW := ok_of (tb_3 (List.mem_of_getElem? (i := 187) rfl)) rfl
theorem wSE_X9_force : Cond.selects yX9_force.cls yX9_force yX9_force ∈ okW := ok_of (tb_3 (List.mem_of_getElem? (i := 188) rfl)) rfl
theorem wCD_X9_force : Cond.code yX9_force cX9_force 3 (some .int) ∈ okW := ok_of (tb_3 (List.mem_of_getElem? (i := 189) rfl)) rfl
theorem wM_L_56 : Cond.methodLink RL 56 yX9_tells ∈ okW := ok_of (tb_3 (List.mem_of_getElem? (i := 190) rfl)) rfl
theorem wIM_X9_tells : Cond.instanceMethod yX9_tells ∈ okW := ok_of (tb_3 (List.mem_of_getElem? (i := 191) rfl)) rfl
theorem wSE_X9_tells : Cond.selects yX9_tells.cls yX9_tells yX9_tells ∈ okW := ok_of (tb_3 (List.mem_of_getElem? (i := 192) rfl)) rfl
theorem wCD_X9_tells : Cond.code yX9_tells cX9_tells 7 (some .int) ∈ okW := ok_of (tb_3 (List.mem_of_getElem? (i := 193) rfl)) rfl
theorem wM_X9_150 : Cond.methodLink RX9 150 yX9_isTone ∈ okW := ok_of (tb_3 (List.mem_of_getElem? (i := 194) rfl)) rfl
theorem wST_X9_isTone : Cond.static yX9_isTone ∈ okW := ok_of (tb_3 (List.mem_of_getElem? (i := 195) rfl)) rfl
theorem wCD_X9_isTone : Cond.code yX9_isTone cX9_isTone 1 (some .boolean) ∈ okW := ok_of (tb_3 (List.mem_of_getElem? (i := 196) rfl)) rfl
theorem wK_X9_153 : Cond.constant RX9 153 (-100000) ∈ okW := ok_of (tb_3 (List.mem_of_getElem? (i := 197) rfl)) rfl
theorem wM_X9_154 : Cond.methodLink RX9 154 yX6_seeSlice ∈ okW := ok_of (tb_3 (List.mem_of_getElem? (i := 198) rfl)) rfl
theorem wIM_X6_seeSlice : Cond.instanceMethod yX6_seeSlice ∈ okW := ok_of (tb_3 (List.mem_of_getElem? (i := 199) rfl)) rfl
theorem wSE_X6_seeSlice : Cond.selects yX6_seeSlice.cls yX6_seeSlice yX6_seeSlice ∈ okW := ok_of (tb_3 (List.mem_of_getElem? (i := 200) rfl)) rfl
theorem wCD_X6_seeSlice : Cond.code yX6_seeSlice cX6_seeSlice 6 none ∈ okW := ok_of (tb_3 (List.mem_of_getElem? (i := 201) rfl)) rfl
theorem wM_X6_24 : Cond.methodLink RX6 24 yJ9_abs_0f7a4 ∈ okW := ok_of (tb_3 (List.mem_of_getElem? (i := 202) rfl)) rfl
theorem wST_J9_abs_0f7a4 : Cond.static yJ9_abs_0f7a4 ∈ okW := ok_of (tb_3 (List.mem_of_getElem? (i := 203) rfl)) rfl
theorem wCD_J9_abs_0f7a4 : Cond.code yJ9_abs_0f7a4 cJ9_abs_0f7a4 1 (some .int) ∈ okW := ok_of (tb_3 (List.mem_of_getElem? (i := 204) rfl)) rfl
theorem wM_X6_30 : Cond.methodLink RX6 30 yJ9_min_7cf53 ∈ okW := ok_of (tb_3 (List.mem_of_getElem? (i := 205) rfl)) rfl
theorem wST_J9_min_7cf53 : Cond.static yJ9_min_7cf53 ∈ okW := ok_of (tb_3 (List.mem_of_getElem? (i := 206) rfl)) rfl
theorem wCD_J9_min_7cf53 : Cond.code yJ9_min_7cf53 cJ9_min_7cf53 2 (some .int) ∈ okW := ok_of (tb_3 (List.mem_of_getElem? (i := 207) rfl)) rfl
theorem wM_X9_162 : Cond.methodLink RX9 162 yX6_told ∈ okW := ok_of (tb_3 (List.mem_of_getElem? (i := 208) rfl)) rfl
theorem wIM_X6_told : Cond.instanceMethod yX6_told ∈ okW := ok_of (tb_3 (List.mem_of_getElem? (i := 209) rfl)) rfl
theorem wSE_X6_told : Cond.selects yX6_told.cls yX6_told yX6_told ∈ okW := ok_of (tb_3 (List.mem_of_getElem? (i := 210) rfl)) rfl
theorem wCD_X6_told : Cond.code yX6_told cX6_told 6 (some .int) ∈ okW := ok_of (tb_3 (List.mem_of_getElem? (i := 211) rfl)) rfl
theorem wM_X6_54 : Cond.methodLink RX6 54 yX7_hasWhen ∈ okW := ok_of (tb_3 (List.mem_of_getElem? (i := 212) rfl)) rfl
theorem wIM_X7_hasWhen : Cond.instanceMethod yX7_hasWhen ∈ okW := ok_of (tb_3 (List.mem_of_getElem? (i := 213) rfl)) rfl
theorem wSE_X7_hasWhen : Cond.selects yX7_hasWhen.cls yX7_hasWhen yX7_hasWhen ∈ okW := ok_of (tb_3 (List.mem_of_getElem? (i := 214) rfl)) rfl
theorem wCD_X7_hasWhen : Cond.code yX7_hasWhen cX7_hasWhen 2 (some .boolean) ∈ okW := ok_of (tb_3 (List.mem_of_getElem? (i := 215) rfl)) rfl
theorem wM_X6_64 : Cond.methodLink RX6 64 yX6_value ∈ okW := ok_of (tb_3 (List.mem_of_getElem? (i := 216) rfl)) rfl
theorem wIM_X6_value : Cond.instanceMethod yX6_value ∈ okW := ok_of (tb_3 (List.mem_of_getElem? (i := 217) rfl)) rfl
theorem wSE_X6_value : Cond.selects yX6_value.cls yX6_value yX6_value ∈ okW := ok_of (tb_3 (List.mem_of_getElem? (i := 218) rfl)) rfl
theorem wCD_X6_value : Cond.code yX6_value cX6_value 9 (some .int) ∈ okW := ok_of (tb_3 (List.mem_of_getElem? (i := 219) rfl)) rfl
theorem wK_X6_97 : Cond.constant RX6 97 (100000) ∈ okW := ok_of (tb_3 (List.mem_of_getElem? (i := 220) rfl)) rfl
theorem wM_X6_98 : Cond.methodLink RX6 98 yX6_joined ∈ okW := ok_of (tb_3 (List.mem_of_getElem? (i := 221) rfl)) rfl
theorem wST_X6_joined : Cond.static yX6_joined ∈ okW := ok_of (tb_3 (List.mem_of_getElem? (i := 222) rfl)) rfl
theorem wCD_X6_joined : Cond.code yX6_joined cX6_joined 3 (some .int) ∈ okW := ok_of (tb_3 (List.mem_of_getElem? (i := 223) rfl)) rfl
theorem wK_X6_71 : Cond.constant RX6 71 (99999) ∈ okW := ok_of (tb_3 (List.mem_of_getElem? (i := 224) rfl)) rfl
theorem wM_X6_72 : Cond.methodLink RX6 72 yJ9_max_7cf53 ∈ okW := ok_of (tb_3 (List.mem_of_getElem? (i := 225) rfl)) rfl
theorem wST_J9_max_7cf53 : Cond.static yJ9_max_7cf53 ∈ okW := ok_of (tb_3 (List.mem_of_getElem? (i := 226) rfl)) rfl
theorem wCD_J9_max_7cf53 : Cond.code yJ9_max_7cf53 cJ9_max_7cf53 2 (some .int) ∈ okW := ok_of (tb_3 (List.mem_of_getElem? (i := 227) rfl)) rfl
theorem wM_L_60 : Cond.methodLink RL 60 yX9_tone ∈ okW := ok_of (tb_3 (List.mem_of_getElem? (i := 228) rfl)) rfl
theorem wIM_X9_tone : Cond.instanceMethod yX9_tone ∈ okW := ok_of (tb_3 (List.mem_of_getElem? (i := 229) rfl)) rfl
theorem wSE_X9_tone : Cond.selects yX9_tone.cls yX9_tone yX9_tone ∈ okW := ok_of (tb_3 (List.mem_of_getElem? (i := 230) rfl)) rfl
theorem wCD_X9_tone : Cond.code yX9_tone cX9_tone 4 (some .int) ∈ okW := ok_of (tb_3 (List.mem_of_getElem? (i := 231) rfl)) rfl
theorem wM_X9_166 : Cond.methodLink RX9 166 yX9_toneNow ∈ okW := ok_of (tb_3 (List.mem_of_getElem? (i := 232) rfl)) rfl
theorem wIM_X9_toneNow : Cond.instanceMethod yX9_toneNow ∈ okW := ok_of (tb_3 (List.mem_of_getElem? (i := 234) rfl)) rfl
theorem wCD_X9_toneNow : Cond.code yX9_toneNow cX9_toneNow 3 (some .int) ∈ okW := ok_of (tb_3 (List.mem_of_getElem? (i := 235) rfl)) rfl
theorem wM_X9_212 : Cond.methodLink RX9 212 yX8_law ∈ okW := ok_of (tb_3 (List.mem_of_getElem? (i := 236) rfl)) rfl
theorem wIM_X8_law : Cond.instanceMethod yX8_law ∈ okW := ok_of (tb_3 (List.mem_of_getElem? (i := 237) rfl)) rfl
theorem wSE_X8_law : Cond.selects yX8_law.cls yX8_law yX8_law ∈ okW := ok_of (tb_3 (List.mem_of_getElem? (i := 238) rfl)) rfl
theorem wCD_X8_law : Cond.code yX8_law cX8_law 1 (some (.object "RingBars$Text")) ∈ okW := ok_of (tb_3 (List.mem_of_getElem? (i := 239) rfl)) rfl
theorem wM_X9_216 : Cond.methodLink RX9 216 yX6_toneOf ∈ okW := ok_of (tb_4 (List.mem_of_getElem? (i := 0) rfl)) rfl
theorem wIM_X6_toneOf : Cond.instanceMethod yX6_toneOf ∈ okW := ok_of (tb_4 (List.mem_of_getElem? (i := 1) rfl)) rfl
theorem wSE_X6_toneOf : Cond.selects yX6_toneOf.cls yX6_toneOf yX6_toneOf ∈ okW := ok_of (tb_4 (List.mem_of_getElem? (i := 2) rfl)) rfl
theorem wCD_X6_toneOf : Cond.code yX6_toneOf cX6_toneOf 10 (some .int) ∈ okW := ok_of (tb_4 (List.mem_of_getElem? (i := 3) rfl)) rfl
theorem wM_X6_75 : Cond.methodLink RX6 75 yX6_seeSlice ∈ okW := ok_of (tb_4 (List.mem_of_getElem? (i := 4) rfl)) rfl
theorem wM_X6_79 : Cond.methodLink RX6 79 yX6_told ∈ okW := ok_of (tb_4 (List.mem_of_getElem? (i := 5) rfl)) rfl
theorem wST_X9_ratio : Cond.static yX9_ratio ∈ okW := ok_of (tb_4 (List.mem_of_getElem? (i := 7) rfl)) rfl
theorem wCD_X9_ratio : Cond.code yX9_ratio cX9_ratio 2 (some .int) ∈ okW := ok_of (tb_4 (List.mem_of_getElem? (i := 8) rfl)) rfl
theorem wK_X9_360 : Cond.constantLong RX9 360 (1000) ∈ okW := ok_of (tb_4 (List.mem_of_getElem? (i := 9) rfl)) rfl
theorem wM_L_64 : Cond.methodLink RL 64 yX9_shave ∈ okW := ok_of (tb_4 (List.mem_of_getElem? (i := 10) rfl)) rfl
theorem wIM_X9_shave : Cond.instanceMethod yX9_shave ∈ okW := ok_of (tb_4 (List.mem_of_getElem? (i := 11) rfl)) rfl
theorem wSE_X9_shave : Cond.selects yX9_shave.cls yX9_shave yX9_shave ∈ okW := ok_of (tb_4 (List.mem_of_getElem? (i := 12) rfl)) rfl
theorem wCD_X9_shave : Cond.code yX9_shave cX9_shave 5 (some .int) ∈ okW := ok_of (tb_4 (List.mem_of_getElem? (i := 13) rfl)) rfl
theorem wM_X9_170 : Cond.methodLink RX9 170 yX9_takeOff ∈ okW := ok_of (tb_4 (List.mem_of_getElem? (i := 14) rfl)) rfl
theorem wIM_X9_takeOff : Cond.instanceMethod yX9_takeOff ∈ okW := ok_of (tb_4 (List.mem_of_getElem? (i := 16) rfl)) rfl
theorem wCD_X9_takeOff : Cond.code yX9_takeOff cX9_takeOff 4 (some .int) ∈ okW := ok_of (tb_4 (List.mem_of_getElem? (i := 17) rfl)) rfl
theorem wM_X9_190 : Cond.methodLink RX9 190 yX9_isLost ∈ okW := ok_of (tb_4 (List.mem_of_getElem? (i := 18) rfl)) rfl
theorem wIM_X9_isLost : Cond.instanceMethod yX9_isLost ∈ okW := ok_of (tb_4 (List.mem_of_getElem? (i := 20) rfl)) rfl
theorem wCD_X9_isLost : Cond.code yX9_isLost cX9_isLost 3 (some .boolean) ∈ okW := ok_of (tb_4 (List.mem_of_getElem? (i := 21) rfl)) rfl
theorem wM_L_68 : Cond.methodLink RL 68 yX9_pass ∈ okW := ok_of (tb_4 (List.mem_of_getElem? (i := 22) rfl)) rfl
theorem wIM_X9_pass : Cond.instanceMethod yX9_pass ∈ okW := ok_of (tb_4 (List.mem_of_getElem? (i := 23) rfl)) rfl
theorem wSE_X9_pass : Cond.selects yX9_pass.cls yX9_pass yX9_pass ∈ okW := ok_of (tb_4 (List.mem_of_getElem? (i := 24) rfl)) rfl
theorem wCD_X9_pass : Cond.code yX9_pass cX9_pass 5 (some .int) ∈ okW := ok_of (tb_4 (List.mem_of_getElem? (i := 25) rfl)) rfl
theorem wM_L_72 : Cond.methodLink RL 72 yX9_goal ∈ okW := ok_of (tb_4 (List.mem_of_getElem? (i := 26) rfl)) rfl
theorem wIM_X9_goal : Cond.instanceMethod yX9_goal ∈ okW := ok_of (tb_4 (List.mem_of_getElem? (i := 27) rfl)) rfl
theorem wSE_X9_goal : Cond.selects yX9_goal.cls yX9_goal yX9_goal ∈ okW := ok_of (tb_4 (List.mem_of_getElem? (i := 28) rfl)) rfl
theorem wCD_X9_goal : Cond.code yX9_goal cX9_goal 5 (some .boolean) ∈ okW := ok_of (tb_4 (List.mem_of_getElem? (i := 29) rfl)) rfl
theorem wK_X9_180 : Cond.constant RX9 180 (999999) ∈ okW := ok_of (tb_4 (List.mem_of_getElem? (i := 30) rfl)) rfl
theorem wM_L_76 : Cond.methodLink RL 76 yX9_slack ∈ okW := ok_of (tb_4 (List.mem_of_getElem? (i := 31) rfl)) rfl
theorem wIM_X9_slack : Cond.instanceMethod yX9_slack ∈ okW := ok_of (tb_4 (List.mem_of_getElem? (i := 32) rfl)) rfl
theorem wSE_X9_slack : Cond.selects yX9_slack.cls yX9_slack yX9_slack ∈ okW := ok_of (tb_4 (List.mem_of_getElem? (i := 33) rfl)) rfl
theorem wCD_X9_slack : Cond.code yX9_slack cX9_slack 2 (some .boolean) ∈ okW := ok_of (tb_4 (List.mem_of_getElem? (i := 34) rfl)) rfl
theorem wM_L_80 : Cond.methodLink RL 80 yX9_state ∈ okW := ok_of (tb_4 (List.mem_of_getElem? (i := 35) rfl)) rfl
theorem wIM_X9_state : Cond.instanceMethod yX9_state ∈ okW := ok_of (tb_4 (List.mem_of_getElem? (i := 36) rfl)) rfl
theorem wSE_X9_state : Cond.selects yX9_state.cls yX9_state yX9_state ∈ okW := ok_of (tb_4 (List.mem_of_getElem? (i := 37) rfl)) rfl
theorem wCD_X9_state : Cond.code yX9_state cX9_state 4 (some .int) ∈ okW := ok_of (tb_4 (List.mem_of_getElem? (i := 38) rfl)) rfl
theorem wM_X9_194 : Cond.methodLink RX9 194 yX9_isTrue ∈ okW := ok_of (tb_4 (List.mem_of_getElem? (i := 39) rfl)) rfl
theorem wIM_X9_isTrue : Cond.instanceMethod yX9_isTrue ∈ okW := ok_of (tb_4 (List.mem_of_getElem? (i := 41) rfl)) rfl
theorem wCD_X9_isTrue : Cond.code yX9_isTrue cX9_isTrue 3 (some .boolean) ∈ okW := ok_of (tb_4 (List.mem_of_getElem? (i := 42) rfl)) rfl
theorem wM_X9_362 : Cond.methodLink RX9 362 yJ9_abs_0f7a4 ∈ okW := ok_of (tb_4 (List.mem_of_getElem? (i := 43) rfl)) rfl
theorem wM_X9_203 : Cond.methodLink RX9 203 yX9_amiss ∈ okW := ok_of (tb_4 (List.mem_of_getElem? (i := 44) rfl)) rfl
theorem wIM_X9_amiss : Cond.instanceMethod yX9_amiss ∈ okW := ok_of (tb_4 (List.mem_of_getElem? (i := 46) rfl)) rfl
theorem wCD_X9_amiss : Cond.code yX9_amiss cX9_amiss 3 (some .int) ∈ okW := ok_of (tb_4 (List.mem_of_getElem? (i := 47) rfl)) rfl
theorem wM_X9_263 : Cond.methodLink RX9 263 yX9_findPoints ∈ okW := ok_of (tb_4 (List.mem_of_getElem? (i := 48) rfl)) rfl
theorem wIM_X9_findPoints : Cond.instanceMethod yX9_findPoints ∈ okW := ok_of (tb_4 (List.mem_of_getElem? (i := 50) rfl)) rfl
theorem wCD_X9_findPoints : Cond.code yX9_findPoints cX9_findPoints 7 (some .int) ∈ okW := ok_of (tb_4 (List.mem_of_getElem? (i := 51) rfl)) rfl
theorem wM_L_84 : Cond.methodLink RL 84 yX9_takes ∈ okW := ok_of (tb_4 (List.mem_of_getElem? (i := 52) rfl)) rfl
theorem wIM_X9_takes : Cond.instanceMethod yX9_takes ∈ okW := ok_of (tb_4 (List.mem_of_getElem? (i := 53) rfl)) rfl
theorem wSE_X9_takes : Cond.selects yX9_takes.cls yX9_takes yX9_takes ∈ okW := ok_of (tb_4 (List.mem_of_getElem? (i := 54) rfl)) rfl
theorem wCD_X9_takes : Cond.code yX9_takes cX9_takes 5 (some .int) ∈ okW := ok_of (tb_4 (List.mem_of_getElem? (i := 55) rfl)) rfl
theorem wK_X9_207 : Cond.constant RX9 207 (-10000000) ∈ okW := ok_of (tb_4 (List.mem_of_getElem? (i := 56) rfl)) rfl
theorem wM_X9_208 : Cond.methodLink RX9 208 yX0_thinnedCopy ∈ okW := ok_of (tb_4 (List.mem_of_getElem? (i := 57) rfl)) rfl
theorem wIM_X0_thinnedCopy : Cond.instanceMethod yX0_thinnedCopy ∈ okW := ok_of (tb_4 (List.mem_of_getElem? (i := 58) rfl)) rfl
theorem wSE_X0_thinnedCopy : Cond.selects yX0_thinnedCopy.cls yX0_thinnedCopy yX0_thinnedCopy ∈ okW := ok_of (tb_4 (List.mem_of_getElem? (i := 59) rfl)) rfl
theorem wCD_X0_thinnedCopy : Cond.code yX0_thinnedCopy cX0_thinnedCopy 3 none ∈ okW := ok_of (tb_4 (List.mem_of_getElem? (i := 60) rfl)) rfl
theorem wM_X0_75 : Cond.methodLink RX0 75 ⟨"java/lang/System", "arraycopy", "(Ljava/lang/Object;ILjava/lang/Object;II)V"⟩ ∈ okW := ok_of (tb_4 (List.mem_of_getElem? (i := 61) rfl)) rfl
theorem wM_L_88 : Cond.methodLink RL 88 yX9_job ∈ okW := ok_of (tb_4 (List.mem_of_getElem? (i := 62) rfl)) rfl
theorem wIM_X9_job : Cond.instanceMethod yX9_job ∈ okW := ok_of (tb_4 (List.mem_of_getElem? (i := 63) rfl)) rfl
theorem wSE_X9_job : Cond.selects yX9_job.cls yX9_job yX9_job ∈ okW := ok_of (tb_4 (List.mem_of_getElem? (i := 64) rfl)) rfl
theorem wCD_X9_job : Cond.code yX9_job cX9_job 7 (some .int) ∈ okW := ok_of (tb_4 (List.mem_of_getElem? (i := 65) rfl)) rfl
theorem wM_X9_223 : Cond.methodLink RX9 223 yX9_comesTrue ∈ okW := ok_of (tb_4 (List.mem_of_getElem? (i := 66) rfl)) rfl
theorem wIM_X9_comesTrue : Cond.instanceMethod yX9_comesTrue ∈ okW := ok_of (tb_4 (List.mem_of_getElem? (i := 68) rfl)) rfl
theorem wCD_X9_comesTrue : Cond.code yX9_comesTrue cX9_comesTrue 7 (some .boolean) ∈ okW := ok_of (tb_4 (List.mem_of_getElem? (i := 69) rfl)) rfl
theorem wM_X9_367 : Cond.methodLink RX9 367 yX7_hasWhen ∈ okW := ok_of (tb_4 (List.mem_of_getElem? (i := 70) rfl)) rfl
theorem wM_X9_370 : Cond.methodLink RX9 370 yX6_seeBar ∈ okW := ok_of (tb_4 (List.mem_of_getElem? (i := 71) rfl)) rfl
theorem wIM_X6_seeBar : Cond.instanceMethod yX6_seeBar ∈ okW := ok_of (tb_4 (List.mem_of_getElem? (i := 72) rfl)) rfl
theorem wSE_X6_seeBar : Cond.selects yX6_seeBar.cls yX6_seeBar yX6_seeBar ∈ okW := ok_of (tb_4 (List.mem_of_getElem? (i := 73) rfl)) rfl
theorem wCD_X6_seeBar : Cond.code yX6_seeBar cX6_seeBar 5 none ∈ okW := ok_of (tb_4 (List.mem_of_getElem? (i := 74) rfl)) rfl
theorem wM_X9_380 : Cond.methodLink RX9 380 yX6_value ∈ okW := ok_of (tb_4 (List.mem_of_getElem? (i := 75) rfl)) rfl
theorem wM_X9_227 : Cond.methodLink RX9 227 yX9_doLine ∈ okW := ok_of (tb_4 (List.mem_of_getElem? (i := 76) rfl)) rfl
theorem wIM_X9_doLine : Cond.instanceMethod yX9_doLine ∈ okW := ok_of (tb_4 (List.mem_of_getElem? (i := 78) rfl)) rfl
theorem wCD_X9_doLine : Cond.code yX9_doLine cX9_doLine 9 none ∈ okW := ok_of (tb_4 (List.mem_of_getElem? (i := 79) rfl)) rfl
theorem wM_X9_395 : Cond.methodLink RX9 395 yJ9_min_7cf53 ∈ okW := ok_of (tb_4 (List.mem_of_getElem? (i := 80) rfl)) rfl
theorem wM_L_92 : Cond.methodLink RL 92 yX9_fewest ∈ okW := ok_of (tb_4 (List.mem_of_getElem? (i := 81) rfl)) rfl
theorem wIM_X9_fewest : Cond.instanceMethod yX9_fewest ∈ okW := ok_of (tb_4 (List.mem_of_getElem? (i := 82) rfl)) rfl
theorem wSE_X9_fewest : Cond.selects yX9_fewest.cls yX9_fewest yX9_fewest ∈ okW := ok_of (tb_4 (List.mem_of_getElem? (i := 83) rfl)) rfl
theorem wCD_X9_fewest : Cond.code yX9_fewest cX9_fewest 5 (some .int) ∈ okW := ok_of (tb_4 (List.mem_of_getElem? (i := 84) rfl)) rfl
theorem wM_X9_231 : Cond.methodLink RX9 231 yX3_prepare ∈ okW := ok_of (tb_4 (List.mem_of_getElem? (i := 85) rfl)) rfl
theorem wIM_X3_prepare : Cond.instanceMethod yX3_prepare ∈ okW := ok_of (tb_4 (List.mem_of_getElem? (i := 86) rfl)) rfl
theorem wSE_X3_prepare : Cond.selects yX3_prepare.cls yX3_prepare yX3_prepare ∈ okW := ok_of (tb_4 (List.mem_of_getElem? (i := 87) rfl)) rfl
theorem wCD_X3_prepare : Cond.code yX3_prepare cX3_prepare 7 none ∈ okW := ok_of (tb_4 (List.mem_of_getElem? (i := 88) rfl)) rfl
theorem wM_X3_49 : Cond.methodLink RX3 49 yJ9_min_7cf53 ∈ okW := ok_of (tb_4 (List.mem_of_getElem? (i := 89) rfl)) rfl
theorem wM_X3_72 : Cond.methodLink RX3 72 yX6_seeSlice ∈ okW := ok_of (tb_4 (List.mem_of_getElem? (i := 90) rfl)) rfl
theorem wM_X3_78 : Cond.methodLink RX3 78 yX3_fill ∈ okW := ok_of (tb_4 (List.mem_of_getElem? (i := 91) rfl)) rfl
theorem wIM_X3_fill : Cond.instanceMethod yX3_fill ∈ okW := ok_of (tb_4 (List.mem_of_getElem? (i := 93) rfl)) rfl
theorem wCD_X3_fill : Cond.code yX3_fill cX3_fill 6 none ∈ okW := ok_of (tb_4 (List.mem_of_getElem? (i := 94) rfl)) rfl
theorem wM_X3_82 : Cond.methodLink RX3 82 yX3_place ∈ okW := ok_of (tb_4 (List.mem_of_getElem? (i := 95) rfl)) rfl
theorem wST_X3_place : Cond.static yX3_place ∈ okW := ok_of (tb_4 (List.mem_of_getElem? (i := 96) rfl)) rfl
theorem wCD_X3_place : Cond.code yX3_place cX3_place 3 (some .int) ∈ okW := ok_of (tb_4 (List.mem_of_getElem? (i := 97) rfl)) rfl
theorem wM_X3_86 : Cond.methodLink RX3 86 yX6_told ∈ okW := ok_of (tb_4 (List.mem_of_getElem? (i := 98) rfl)) rfl
theorem wM_X9_235 : Cond.methodLink RX9 235 yX3_find ∈ okW := ok_of (tb_4 (List.mem_of_getElem? (i := 99) rfl)) rfl
theorem wIM_X3_find : Cond.instanceMethod yX3_find ∈ okW := ok_of (tb_4 (List.mem_of_getElem? (i := 100) rfl)) rfl
theorem wSE_X3_find : Cond.selects yX3_find.cls yX3_find yX3_find ∈ okW := ok_of (tb_4 (List.mem_of_getElem? (i := 101) rfl)) rfl
theorem wCD_X3_find : Cond.code yX3_find cX3_find 2 (some .int) ∈ okW := ok_of (tb_4 (List.mem_of_getElem? (i := 102) rfl)) rfl
theorem wM_X3_90 : Cond.methodLink RX3 90 yX3_isTrueNow ∈ okW := ok_of (tb_4 (List.mem_of_getElem? (i := 103) rfl)) rfl
theorem wIM_X3_isTrueNow : Cond.instanceMethod yX3_isTrueNow ∈ okW := ok_of (tb_4 (List.mem_of_getElem? (i := 105) rfl)) rfl
theorem wCD_X3_isTrueNow : Cond.code yX3_isTrueNow cX3_isTrueNow 2 (some .boolean) ∈ okW := ok_of (tb_4 (List.mem_of_getElem? (i := 106) rfl)) rfl
theorem wM_X3_117 : Cond.methodLink RX3 117 yX3_isNear ∈ okW := ok_of (tb_4 (List.mem_of_getElem? (i := 107) rfl)) rfl
theorem wIM_X3_isNear : Cond.instanceMethod yX3_isNear ∈ okW := ok_of (tb_4 (List.mem_of_getElem? (i := 109) rfl)) rfl
theorem wCD_X3_isNear : Cond.code yX3_isNear cX3_isNear 6 (some .boolean) ∈ okW := ok_of (tb_4 (List.mem_of_getElem? (i := 110) rfl)) rfl
theorem wM_X3_94 : Cond.methodLink RX3 94 yX2_clear ∈ okW := ok_of (tb_4 (List.mem_of_getElem? (i := 112) rfl)) rfl
theorem wIM_X2_clear : Cond.instanceMethod yX2_clear ∈ okW := ok_of (tb_4 (List.mem_of_getElem? (i := 113) rfl)) rfl
theorem wSE_X2_clear : Cond.selects yX2_clear.cls yX2_clear yX2_clear ∈ okW := ok_of (tb_4 (List.mem_of_getElem? (i := 114) rfl)) rfl
theorem wCD_X2_clear : Cond.code yX2_clear cX2_clear 1 none ∈ okW := ok_of (tb_4 (List.mem_of_getElem? (i := 115) rfl)) rfl
theorem wM_X2_17 : Cond.methodLink RX2 17 yJ7_fill_53178 ∈ okW := ok_of (tb_4 (List.mem_of_getElem? (i := 116) rfl)) rfl
theorem wM_X3_97 : Cond.methodLink RX3 97 yX3_goOn ∈ okW := ok_of (tb_4 (List.mem_of_getElem? (i := 117) rfl)) rfl
theorem wIM_X3_goOn : Cond.instanceMethod yX3_goOn ∈ okW := ok_of (tb_4 (List.mem_of_getElem? (i := 119) rfl)) rfl
theorem wCD_X3_goOn : Cond.code yX3_goOn cX3_goOn 5 (some .boolean) ∈ okW := ok_of (tb_4 (List.mem_of_getElem? (i := 120) rfl)) rfl
theorem wM_X3_101 : Cond.methodLink RX3 101 yX3_isNearBehind ∈ okW := ok_of (tb_4 (List.mem_of_getElem? (i := 121) rfl)) rfl
theorem wIM_X3_isNearBehind : Cond.instanceMethod yX3_isNearBehind ∈ okW := ok_of (tb_4 (List.mem_of_getElem? (i := 123) rfl)) rfl
theorem wCD_X3_isNearBehind : Cond.code yX3_isNearBehind cX3_isNearBehind 7 (some .boolean) ∈ okW := ok_of (tb_4 (List.mem_of_getElem? (i := 124) rfl)) rfl
theorem wM_X3_105 : Cond.methodLink RX3 105 yX3_isReached ∈ okW := ok_of (tb_4 (List.mem_of_getElem? (i := 125) rfl)) rfl
theorem wIM_X3_isReached : Cond.instanceMethod yX3_isReached ∈ okW := ok_of (tb_4 (List.mem_of_getElem? (i := 127) rfl)) rfl
theorem wCD_X3_isReached : Cond.code yX3_isReached cX3_isReached 5 (some .boolean) ∈ okW := ok_of (tb_4 (List.mem_of_getElem? (i := 128) rfl)) rfl
theorem wM_X3_109 : Cond.methodLink RX3 109 yX3_move ∈ okW := ok_of (tb_4 (List.mem_of_getElem? (i := 129) rfl)) rfl
theorem wIM_X3_move : Cond.instanceMethod yX3_move ∈ okW := ok_of (tb_4 (List.mem_of_getElem? (i := 131) rfl)) rfl
theorem wCD_X3_move : Cond.code yX3_move cX3_move 6 none ∈ okW := ok_of (tb_4 (List.mem_of_getElem? (i := 132) rfl)) rfl
theorem wM_X3_113 : Cond.methodLink RX3 113 yX2_add ∈ okW := ok_of (tb_4 (List.mem_of_getElem? (i := 133) rfl)) rfl
theorem wIM_X2_add : Cond.instanceMethod yX2_add ∈ okW := ok_of (tb_4 (List.mem_of_getElem? (i := 134) rfl)) rfl
theorem wSE_X2_add : Cond.selects yX2_add.cls yX2_add yX2_add ∈ okW := ok_of (tb_4 (List.mem_of_getElem? (i := 135) rfl)) rfl
theorem wCD_X2_add : Cond.code yX2_add cX2_add 4 (some .boolean) ∈ okW := ok_of (tb_4 (List.mem_of_getElem? (i := 136) rfl)) rfl
theorem wK_X2_23 : Cond.constant RX2 23 (-1640531535) ∈ okW := ok_of (tb_4 (List.mem_of_getElem? (i := 137) rfl)) rfl
theorem wM_L_96 : Cond.methodLink RL 96 yX9_tap ∈ okW := ok_of (tb_4 (List.mem_of_getElem? (i := 138) rfl)) rfl
theorem wIM_X9_tap : Cond.instanceMethod yX9_tap ∈ okW := ok_of (tb_4 (List.mem_of_getElem? (i := 139) rfl)) rfl
theorem wSE_X9_tap : Cond.selects yX9_tap.cls yX9_tap yX9_tap ∈ okW := ok_of (tb_4 (List.mem_of_getElem? (i := 140) rfl)) rfl
theorem wCD_X9_tap : Cond.code yX9_tap cX9_tap 5 (some .int) ∈ okW := ok_of (tb_4 (List.mem_of_getElem? (i := 141) rfl)) rfl
theorem wK_X9_242 : Cond.constant RX9 242 (9999999) ∈ okW := ok_of (tb_4 (List.mem_of_getElem? (i := 142) rfl)) rfl
theorem wM_X9_243 : Cond.methodLink RX9 243 yX0_addTap ∈ okW := ok_of (tb_4 (List.mem_of_getElem? (i := 143) rfl)) rfl
theorem wIM_X0_addTap : Cond.instanceMethod yX0_addTap ∈ okW := ok_of (tb_4 (List.mem_of_getElem? (i := 144) rfl)) rfl
theorem wSE_X0_addTap : Cond.selects yX0_addTap.cls yX0_addTap yX0_addTap ∈ okW := ok_of (tb_4 (List.mem_of_getElem? (i := 145) rfl)) rfl
theorem wCD_X0_addTap : Cond.code yX0_addTap cX0_addTap 3 none ∈ okW := ok_of (tb_4 (List.mem_of_getElem? (i := 146) rfl)) rfl
theorem wM_L_100 : Cond.methodLink RL 100 yX9_fits ∈ okW := ok_of (tb_4 (List.mem_of_getElem? (i := 147) rfl)) rfl
theorem wIM_X9_fits : Cond.instanceMethod yX9_fits ∈ okW := ok_of (tb_4 (List.mem_of_getElem? (i := 148) rfl)) rfl
theorem wSE_X9_fits : Cond.selects yX9_fits.cls yX9_fits yX9_fits ∈ okW := ok_of (tb_4 (List.mem_of_getElem? (i := 149) rfl)) rfl
theorem wCD_X9_fits : Cond.code yX9_fits cX9_fits 8 (some .int) ∈ okW := ok_of (tb_4 (List.mem_of_getElem? (i := 150) rfl)) rfl
theorem wK_X9_247 : Cond.constant RX9 247 (99999) ∈ okW := ok_of (tb_4 (List.mem_of_getElem? (i := 151) rfl)) rfl
theorem wM_X9_248 : Cond.methodLink RX9 248 yX1_find ∈ okW := ok_of (tb_4 (List.mem_of_getElem? (i := 152) rfl)) rfl
theorem wIM_X1_find : Cond.instanceMethod yX1_find ∈ okW := ok_of (tb_4 (List.mem_of_getElem? (i := 153) rfl)) rfl
theorem wSE_X1_find : Cond.selects yX1_find.cls yX1_find yX1_find ∈ okW := ok_of (tb_4 (List.mem_of_getElem? (i := 154) rfl)) rfl
theorem wCD_X1_find : Cond.code yX1_find cX1_find 8 (some .int) ∈ okW := ok_of (tb_4 (List.mem_of_getElem? (i := 155) rfl)) rfl
theorem wM_X1_34 : Cond.methodLink RX1 34 yJ9_min_7cf53 ∈ okW := ok_of (tb_4 (List.mem_of_getElem? (i := 156) rfl)) rfl
theorem wM_X1_40 : Cond.methodLink RX1 40 yJ9_max_7cf53 ∈ okW := ok_of (tb_4 (List.mem_of_getElem? (i := 157) rfl)) rfl
theorem wM_X1_62 : Cond.methodLink RX1 62 yX1_fill ∈ okW := ok_of (tb_4 (List.mem_of_getElem? (i := 158) rfl)) rfl
theorem wIM_X1_fill : Cond.instanceMethod yX1_fill ∈ okW := ok_of (tb_4 (List.mem_of_getElem? (i := 160) rfl)) rfl
theorem wCD_X1_fill : Cond.code yX1_fill cX1_fill 10 none ∈ okW := ok_of (tb_4 (List.mem_of_getElem? (i := 161) rfl)) rfl
theorem wM_X1_80 : Cond.methodLink RX1 80 yX6_seeSlice ∈ okW := ok_of (tb_4 (List.mem_of_getElem? (i := 162) rfl)) rfl
theorem wM_X1_86 : Cond.methodLink RX1 86 yX1_place ∈ okW := ok_of (tb_4 (List.mem_of_getElem? (i := 163) rfl)) rfl
theorem wST_X1_place : Cond.static yX1_place ∈ okW := ok_of (tb_4 (List.mem_of_getElem? (i := 164) rfl)) rfl
theorem wCD_X1_place : Cond.code yX1_place cX1_place 3 (some .int) ∈ okW := ok_of (tb_4 (List.mem_of_getElem? (i := 165) rfl)) rfl
theorem wM_X1_90 : Cond.methodLink RX1 90 yX6_told ∈ okW := ok_of (tb_4 (List.mem_of_getElem? (i := 166) rfl)) rfl
theorem wM_X1_72 : Cond.methodLink RX1 72 yX1_unfold ∈ okW := ok_of (tb_4 (List.mem_of_getElem? (i := 167) rfl)) rfl
theorem wIM_X1_unfold : Cond.instanceMethod yX1_unfold ∈ okW := ok_of (tb_4 (List.mem_of_getElem? (i := 169) rfl)) rfl
theorem wCD_X1_unfold : Cond.code yX1_unfold cX1_unfold 4 none ∈ okW := ok_of (tb_4 (List.mem_of_getElem? (i := 170) rfl)) rfl
theorem wM_X1_76 : Cond.methodLink RX1 76 yX1_isHeard ∈ okW := ok_of (tb_4 (List.mem_of_getElem? (i := 171) rfl)) rfl
theorem wIM_X1_isHeard : Cond.instanceMethod yX1_isHeard ∈ okW := ok_of (tb_4 (List.mem_of_getElem? (i := 173) rfl)) rfl
theorem wCD_X1_isHeard : Cond.code yX1_isHeard cX1_isHeard 4 (some .boolean) ∈ okW := ok_of (tb_4 (List.mem_of_getElem? (i := 174) rfl)) rfl
theorem wM_X1_97 : Cond.methodLink RX1 97 yX1_toneAt ∈ okW := ok_of (tb_4 (List.mem_of_getElem? (i := 175) rfl)) rfl
theorem wIM_X1_toneAt : Cond.instanceMethod yX1_toneAt ∈ okW := ok_of (tb_4 (List.mem_of_getElem? (i := 177) rfl)) rfl
theorem wCD_X1_toneAt : Cond.code yX1_toneAt cX1_toneAt 7 (some .int) ∈ okW := ok_of (tb_4 (List.mem_of_getElem? (i := 178) rfl)) rfl
theorem wM_X1_104 : Cond.methodLink RX1 104 yJ9_abs_0f7a4 ∈ okW := ok_of (tb_4 (List.mem_of_getElem? (i := 180) rfl)) rfl
theorem wM_X9_251 : Cond.methodLink RX9 251 yX1_nextPass ∈ okW := ok_of (tb_4 (List.mem_of_getElem? (i := 181) rfl)) rfl
theorem wIM_X1_nextPass : Cond.instanceMethod yX1_nextPass ∈ okW := ok_of (tb_4 (List.mem_of_getElem? (i := 182) rfl)) rfl
theorem wSE_X1_nextPass : Cond.selects yX1_nextPass.cls yX1_nextPass yX1_nextPass ∈ okW := ok_of (tb_4 (List.mem_of_getElem? (i := 183) rfl)) rfl
theorem wCD_X1_nextPass : Cond.code yX1_nextPass cX1_nextPass 8 (some .int) ∈ okW := ok_of (tb_4 (List.mem_of_getElem? (i := 184) rfl)) rfl
theorem wM_X1_111 : Cond.methodLink RX1 111 yX1_countUnlike ∈ okW := ok_of (tb_4 (List.mem_of_getElem? (i := 185) rfl)) rfl
theorem wIM_X1_countUnlike : Cond.instanceMethod yX1_countUnlike ∈ okW := ok_of (tb_4 (List.mem_of_getElem? (i := 187) rfl)) rfl
theorem wCD_X1_countUnlike : Cond.code yX1_countUnlike cX1_countUnlike 6 (some .int) ∈ okW := ok_of (tb_4 (List.mem_of_getElem? (i := 188) rfl)) rfl
theorem wM_X1_115 : Cond.methodLink RX1 115 yX0_thinnedCopy ∈ okW := ok_of (tb_4 (List.mem_of_getElem? (i := 189) rfl)) rfl
theorem wM_X1_122 : Cond.methodLink RX1 122 yX2_clear ∈ okW := ok_of (tb_4 (List.mem_of_getElem? (i := 190) rfl)) rfl
theorem wM_X1_125 : Cond.methodLink RX1 125 yX2_add ∈ okW := ok_of (tb_4 (List.mem_of_getElem? (i := 191) rfl)) rfl
theorem wM_X9_255 : Cond.methodLink RX9 255 yX1_sure ∈ okW := ok_of (tb_4 (List.mem_of_getElem? (i := 192) rfl)) rfl
theorem wIM_X1_sure : Cond.instanceMethod yX1_sure ∈ okW := ok_of (tb_4 (List.mem_of_getElem? (i := 193) rfl)) rfl
theorem wSE_X1_sure : Cond.selects yX1_sure.cls yX1_sure yX1_sure ∈ okW := ok_of (tb_4 (List.mem_of_getElem? (i := 194) rfl)) rfl
theorem wCD_X1_sure : Cond.code yX1_sure cX1_sure 4 (some .int) ∈ okW := ok_of (tb_4 (List.mem_of_getElem? (i := 195) rfl)) rfl
theorem wM_L_105 : Cond.methodLink RL 105 yX9_off ∈ okW := ok_of (tb_4 (List.mem_of_getElem? (i := 196) rfl)) rfl
theorem wIM_X9_off : Cond.instanceMethod yX9_off ∈ okW := ok_of (tb_4 (List.mem_of_getElem? (i := 197) rfl)) rfl
theorem wSE_X9_off : Cond.selects yX9_off.cls yX9_off yX9_off ∈ okW := ok_of (tb_4 (List.mem_of_getElem? (i := 198) rfl)) rfl
theorem wCD_X9_off : Cond.code yX9_off cX9_off 2 (some .int) ∈ okW := ok_of (tb_4 (List.mem_of_getElem? (i := 199) rfl)) rfl
theorem wM_X9_259 : Cond.methodLink RX9 259 yX9_offOf ∈ okW := ok_of (tb_4 (List.mem_of_getElem? (i := 200) rfl)) rfl
theorem wIM_X9_offOf : Cond.instanceMethod yX9_offOf ∈ okW := ok_of (tb_4 (List.mem_of_getElem? (i := 202) rfl)) rfl
theorem wCD_X9_offOf : Cond.code yX9_offOf cX9_offOf 8 (some .int) ∈ okW := ok_of (tb_4 (List.mem_of_getElem? (i := 203) rfl)) rfl
theorem wK_X9_411 : Cond.constantLong RX9 411 (999999999) ∈ okW := ok_of (tb_4 (List.mem_of_getElem? (i := 204) rfl)) rfl
theorem wM_X9_413 : Cond.methodLink RX9 413 yJ9_min_f86c9 ∈ okW := ok_of (tb_4 (List.mem_of_getElem? (i := 205) rfl)) rfl
theorem wST_J9_min_f86c9 : Cond.static yJ9_min_f86c9 ∈ okW := ok_of (tb_4 (List.mem_of_getElem? (i := 206) rfl)) rfl
theorem wCD_J9_min_f86c9 : Cond.code yJ9_min_f86c9 cJ9_min_f86c9 4 (some .long) ∈ okW := ok_of (tb_4 (List.mem_of_getElem? (i := 207) rfl)) rfl
theorem wM_L_109 : Cond.methodLink RL 109 yX9_still ∈ okW := ok_of (tb_4 (List.mem_of_getElem? (i := 208) rfl)) rfl
theorem wIM_X9_still : Cond.instanceMethod yX9_still ∈ okW := ok_of (tb_4 (List.mem_of_getElem? (i := 209) rfl)) rfl
theorem wSE_X9_still : Cond.selects yX9_still.cls yX9_still yX9_still ∈ okW := ok_of (tb_4 (List.mem_of_getElem? (i := 210) rfl)) rfl
theorem wCD_X9_still : Cond.code yX9_still cX9_still 6 (some .int) ∈ okW := ok_of (tb_4 (List.mem_of_getElem? (i := 211) rfl)) rfl
theorem wM_L_113 : Cond.methodLink RL 113 yX9_holes ∈ okW := ok_of (tb_4 (List.mem_of_getElem? (i := 212) rfl)) rfl
theorem wIM_X9_holes : Cond.instanceMethod yX9_holes ∈ okW := ok_of (tb_4 (List.mem_of_getElem? (i := 213) rfl)) rfl
theorem wSE_X9_holes : Cond.selects yX9_holes.cls yX9_holes yX9_holes ∈ okW := ok_of (tb_4 (List.mem_of_getElem? (i := 214) rfl)) rfl
theorem wCD_X9_holes : Cond.code yX9_holes cX9_holes 5 (some .boolean) ∈ okW := ok_of (tb_4 (List.mem_of_getElem? (i := 215) rfl)) rfl
theorem wM_L_117 : Cond.methodLink RL 117 yX9_tube ∈ okW := ok_of (tb_4 (List.mem_of_getElem? (i := 216) rfl)) rfl
theorem wIM_X9_tube : Cond.instanceMethod yX9_tube ∈ okW := ok_of (tb_4 (List.mem_of_getElem? (i := 217) rfl)) rfl
theorem wSE_X9_tube : Cond.selects yX9_tube.cls yX9_tube yX9_tube ∈ okW := ok_of (tb_4 (List.mem_of_getElem? (i := 218) rfl)) rfl
theorem wCD_X9_tube : Cond.code yX9_tube cX9_tube 5 (some .boolean) ∈ okW := ok_of (tb_4 (List.mem_of_getElem? (i := 219) rfl)) rfl
theorem wM_L_121 : Cond.methodLink RL 121 yX9_in ∈ okW := ok_of (tb_4 (List.mem_of_getElem? (i := 220) rfl)) rfl
theorem wIM_X9_in : Cond.instanceMethod yX9_in ∈ okW := ok_of (tb_4 (List.mem_of_getElem? (i := 221) rfl)) rfl
theorem wSE_X9_in : Cond.selects yX9_in.cls yX9_in yX9_in ∈ okW := ok_of (tb_4 (List.mem_of_getElem? (i := 222) rfl)) rfl
theorem wCD_X9_in : Cond.code yX9_in cX9_in 7 (some .int) ∈ okW := ok_of (tb_4 (List.mem_of_getElem? (i := 223) rfl)) rfl
theorem wM_X9_275 : Cond.methodLink RX9 275 yX9_isAir ∈ okW := ok_of (tb_4 (List.mem_of_getElem? (i := 224) rfl)) rfl
theorem wST_X9_isAir : Cond.static yX9_isAir ∈ okW := ok_of (tb_4 (List.mem_of_getElem? (i := 225) rfl)) rfl
theorem wCD_X9_isAir : Cond.code yX9_isAir cX9_isAir 2 (some .boolean) ∈ okW := ok_of (tb_4 (List.mem_of_getElem? (i := 226) rfl)) rfl
theorem wM_X9_279 : Cond.methodLink RX9 279 yX9_driftIn ∈ okW := ok_of (tb_4 (List.mem_of_getElem? (i := 227) rfl)) rfl
theorem wIM_X9_driftIn : Cond.instanceMethod yX9_driftIn ∈ okW := ok_of (tb_4 (List.mem_of_getElem? (i := 229) rfl)) rfl
theorem wCD_X9_driftIn : Cond.code yX9_driftIn cX9_driftIn 3 (some .int) ∈ okW := ok_of (tb_4 (List.mem_of_getElem? (i := 230) rfl)) rfl
theorem wM_X9_416 : Cond.methodLink RX9 416 yX6_seeAir ∈ okW := ok_of (tb_4 (List.mem_of_getElem? (i := 231) rfl)) rfl
theorem wIM_X6_seeAir : Cond.instanceMethod yX6_seeAir ∈ okW := ok_of (tb_4 (List.mem_of_getElem? (i := 232) rfl)) rfl
theorem wSE_X6_seeAir : Cond.selects yX6_seeAir.cls yX6_seeAir yX6_seeAir ∈ okW := ok_of (tb_4 (List.mem_of_getElem? (i := 233) rfl)) rfl
theorem wCD_X6_seeAir : Cond.code yX6_seeAir cX6_seeAir 3 none ∈ okW := ok_of (tb_4 (List.mem_of_getElem? (i := 234) rfl)) rfl
theorem wM_X6_37 : Cond.methodLink RX6 37 yJ7_fill_53178 ∈ okW := ok_of (tb_4 (List.mem_of_getElem? (i := 235) rfl)) rfl
theorem wM_X9_283 : Cond.methodLink RX9 283 yX9_drifted ∈ okW := ok_of (tb_4 (List.mem_of_getElem? (i := 236) rfl)) rfl
theorem wST_X9_drifted : Cond.static yX9_drifted ∈ okW := ok_of (tb_4 (List.mem_of_getElem? (i := 237) rfl)) rfl
theorem wCD_X9_drifted : Cond.code yX9_drifted cX9_drifted 4 (some .int) ∈ okW := ok_of (tb_4 (List.mem_of_getElem? (i := 238) rfl)) rfl
theorem wK_X9_419 : Cond.constantLong RX9 419 (10000) ∈ okW := ok_of (tb_4 (List.mem_of_getElem? (i := 239) rfl)) rfl
theorem wM_X9_421 : Cond.methodLink RX9 421 yJ9_max_f86c9 ∈ okW := ok_of (tb_5 (List.mem_of_getElem? (i := 0) rfl)) rfl
theorem wST_J9_max_f86c9 : Cond.static yJ9_max_f86c9 ∈ okW := ok_of (tb_5 (List.mem_of_getElem? (i := 1) rfl)) rfl
theorem wCD_J9_max_f86c9 : Cond.code yJ9_max_f86c9 cJ9_max_f86c9 4 (some .long) ∈ okW := ok_of (tb_5 (List.mem_of_getElem? (i := 2) rfl)) rfl
theorem wM_X9_286 : Cond.methodLink RX9 286 yX9_beat ∈ okW := ok_of (tb_5 (List.mem_of_getElem? (i := 3) rfl)) rfl
theorem wST_X9_beat : Cond.static yX9_beat ∈ okW := ok_of (tb_5 (List.mem_of_getElem? (i := 4) rfl)) rfl
theorem wCD_X9_beat : Cond.code yX9_beat cX9_beat 5 (some .int) ∈ okW := ok_of (tb_5 (List.mem_of_getElem? (i := 5) rfl)) rfl
theorem wM_X9_424 : Cond.methodLink RX9 424 yX9_air ∈ okW := ok_of (tb_5 (List.mem_of_getElem? (i := 6) rfl)) rfl
theorem wST_X9_air : Cond.static yX9_air ∈ okW := ok_of (tb_5 (List.mem_of_getElem? (i := 7) rfl)) rfl
theorem wCD_X9_air : Cond.code yX9_air cX9_air 1 (some .int) ∈ okW := ok_of (tb_5 (List.mem_of_getElem? (i := 8) rfl)) rfl
theorem wM_X9_290 : Cond.methodLink RX9 290 yX9_stopper ∈ okW := ok_of (tb_5 (List.mem_of_getElem? (i := 9) rfl)) rfl
theorem wST_X9_stopper : Cond.static yX9_stopper ∈ okW := ok_of (tb_5 (List.mem_of_getElem? (i := 10) rfl)) rfl
theorem wCD_X9_stopper : Cond.code yX9_stopper cX9_stopper 5 (some .int) ∈ okW := ok_of (tb_5 (List.mem_of_getElem? (i := 11) rfl)) rfl
theorem wM_X9_427 : Cond.methodLink RX9 427 yX9_shortest ∈ okW := ok_of (tb_5 (List.mem_of_getElem? (i := 12) rfl)) rfl
theorem wST_X9_shortest : Cond.static yX9_shortest ∈ okW := ok_of (tb_5 (List.mem_of_getElem? (i := 13) rfl)) rfl
theorem wCD_X9_shortest : Cond.code yX9_shortest cX9_shortest 2 (some .int) ∈ okW := ok_of (tb_5 (List.mem_of_getElem? (i := 14) rfl)) rfl
theorem wM_L_125 : Cond.methodLink RL 125 yX9_night ∈ okW := ok_of (tb_5 (List.mem_of_getElem? (i := 15) rfl)) rfl
theorem wIM_X9_night : Cond.instanceMethod yX9_night ∈ okW := ok_of (tb_5 (List.mem_of_getElem? (i := 16) rfl)) rfl
theorem wSE_X9_night : Cond.selects yX9_night.cls yX9_night yX9_night ∈ okW := ok_of (tb_5 (List.mem_of_getElem? (i := 17) rfl)) rfl
theorem wCD_X9_night : Cond.code yX9_night cX9_night 3 (some .int) ∈ okW := ok_of (tb_5 (List.mem_of_getElem? (i := 18) rfl)) rfl
theorem wM_L_129 : Cond.methodLink RL 129 yX9_nights ∈ okW := ok_of (tb_5 (List.mem_of_getElem? (i := 19) rfl)) rfl
theorem wIM_X9_nights : Cond.instanceMethod yX9_nights ∈ okW := ok_of (tb_5 (List.mem_of_getElem? (i := 20) rfl)) rfl
theorem wSE_X9_nights : Cond.selects yX9_nights.cls yX9_nights yX9_nights ∈ okW := ok_of (tb_5 (List.mem_of_getElem? (i := 21) rfl)) rfl
theorem wCD_X9_nights : Cond.code yX9_nights cX9_nights 3 (some .int) ∈ okW := ok_of (tb_5 (List.mem_of_getElem? (i := 22) rfl)) rfl
theorem wM_X9_302 : Cond.methodLink RX9 302 yX9_fillLowTones ∈ okW := ok_of (tb_5 (List.mem_of_getElem? (i := 23) rfl)) rfl
theorem wIM_X9_fillLowTones : Cond.instanceMethod yX9_fillLowTones ∈ okW := ok_of (tb_5 (List.mem_of_getElem? (i := 25) rfl)) rfl
theorem wCD_X9_fillLowTones : Cond.code yX9_fillLowTones cX9_fillLowTones 2 none ∈ okW := ok_of (tb_5 (List.mem_of_getElem? (i := 26) rfl)) rfl
theorem wM_X9_305 : Cond.methodLink RX9 305 yX9_apart ∈ okW := ok_of (tb_5 (List.mem_of_getElem? (i := 27) rfl)) rfl
theorem wIM_X9_apart : Cond.instanceMethod yX9_apart ∈ okW := ok_of (tb_5 (List.mem_of_getElem? (i := 29) rfl)) rfl
theorem wCD_X9_apart : Cond.code yX9_apart cX9_apart 3 (some .int) ∈ okW := ok_of (tb_5 (List.mem_of_getElem? (i := 30) rfl)) rfl
theorem wM_X9_311 : Cond.methodLink RX9 311 yX9_suiting ∈ okW := ok_of (tb_5 (List.mem_of_getElem? (i := 31) rfl)) rfl
theorem wIM_X9_suiting : Cond.instanceMethod yX9_suiting ∈ okW := ok_of (tb_5 (List.mem_of_getElem? (i := 33) rfl)) rfl
theorem wCD_X9_suiting : Cond.code yX9_suiting cX9_suiting 5 (some .int) ∈ okW := ok_of (tb_5 (List.mem_of_getElem? (i := 34) rfl)) rfl
theorem wM_X9_308 : Cond.methodLink RX9 308 yX9_worst ∈ okW := ok_of (tb_5 (List.mem_of_getElem? (i := 35) rfl)) rfl
theorem wIM_X9_worst : Cond.instanceMethod yX9_worst ∈ okW := ok_of (tb_5 (List.mem_of_getElem? (i := 37) rfl)) rfl
theorem wCD_X9_worst : Cond.code yX9_worst cX9_worst 8 (some .int) ∈ okW := ok_of (tb_5 (List.mem_of_getElem? (i := 38) rfl)) rfl
theorem wM_X9_430 : Cond.methodLink RX9 430 yX9_beatIn ∈ okW := ok_of (tb_5 (List.mem_of_getElem? (i := 39) rfl)) rfl
theorem wIM_X9_beatIn : Cond.instanceMethod yX9_beatIn ∈ okW := ok_of (tb_5 (List.mem_of_getElem? (i := 41) rfl)) rfl
theorem wCD_X9_beatIn : Cond.code yX9_beatIn cX9_beatIn 5 (some .int) ∈ okW := ok_of (tb_5 (List.mem_of_getElem? (i := 42) rfl)) rfl
theorem wM_X9_314 : Cond.methodLink RX9 314 yX9_together ∈ okW := ok_of (tb_5 (List.mem_of_getElem? (i := 43) rfl)) rfl
theorem wIM_X9_together : Cond.instanceMethod yX9_together ∈ okW := ok_of (tb_5 (List.mem_of_getElem? (i := 45) rfl)) rfl
theorem wCD_X9_together : Cond.code yX9_together cX9_together 11 (some .int) ∈ okW := ok_of (tb_5 (List.mem_of_getElem? (i := 46) rfl)) rfl
theorem wM_X9_434 : Cond.methodLink RX9 434 yJ9_abs_067f4 ∈ okW := ok_of (tb_5 (List.mem_of_getElem? (i := 47) rfl)) rfl
theorem wST_J9_abs_067f4 : Cond.static yJ9_abs_067f4 ∈ okW := ok_of (tb_5 (List.mem_of_getElem? (i := 48) rfl)) rfl
theorem wCD_J9_abs_067f4 : Cond.code yJ9_abs_067f4 cJ9_abs_067f4 2 (some .long) ∈ okW := ok_of (tb_5 (List.mem_of_getElem? (i := 49) rfl)) rfl
theorem wM_L_133 : Cond.methodLink RL 133 yX9_note ∈ okW := ok_of (tb_5 (List.mem_of_getElem? (i := 50) rfl)) rfl
theorem wIM_X9_note : Cond.instanceMethod yX9_note ∈ okW := ok_of (tb_5 (List.mem_of_getElem? (i := 51) rfl)) rfl
theorem wSE_X9_note : Cond.selects yX9_note.cls yX9_note yX9_note ∈ okW := ok_of (tb_5 (List.mem_of_getElem? (i := 52) rfl)) rfl
theorem wCD_X9_note : Cond.code yX9_note cX9_note 3 (some .int) ∈ okW := ok_of (tb_5 (List.mem_of_getElem? (i := 53) rfl)) rfl
theorem wM_L_137 : Cond.methodLink RL 137 yX9_blank ∈ okW := ok_of (tb_5 (List.mem_of_getElem? (i := 54) rfl)) rfl
theorem wIM_X9_blank : Cond.instanceMethod yX9_blank ∈ okW := ok_of (tb_5 (List.mem_of_getElem? (i := 55) rfl)) rfl
theorem wSE_X9_blank : Cond.selects yX9_blank.cls yX9_blank yX9_blank ∈ okW := ok_of (tb_5 (List.mem_of_getElem? (i := 56) rfl)) rfl
theorem wCD_X9_blank : Cond.code yX9_blank cX9_blank 3 (some .int) ∈ okW := ok_of (tb_5 (List.mem_of_getElem? (i := 57) rfl)) rfl
theorem wM_L_141 : Cond.methodLink RL 141 yX9_set ∈ okW := ok_of (tb_5 (List.mem_of_getElem? (i := 58) rfl)) rfl
theorem wIM_X9_set : Cond.instanceMethod yX9_set ∈ okW := ok_of (tb_5 (List.mem_of_getElem? (i := 59) rfl)) rfl
theorem wSE_X9_set : Cond.selects yX9_set.cls yX9_set yX9_set ∈ okW := ok_of (tb_5 (List.mem_of_getElem? (i := 60) rfl)) rfl
theorem wCD_X9_set : Cond.code yX9_set cX9_set 4 (some .int) ∈ okW := ok_of (tb_5 (List.mem_of_getElem? (i := 61) rfl)) rfl
theorem wM_X9_335 : Cond.methodLink RX9 335 yX5_find ∈ okW := ok_of (tb_5 (List.mem_of_getElem? (i := 62) rfl)) rfl
theorem wIM_X5_find : Cond.instanceMethod yX5_find ∈ okW := ok_of (tb_5 (List.mem_of_getElem? (i := 63) rfl)) rfl
theorem wSE_X5_find : Cond.selects yX5_find.cls yX5_find yX5_find ∈ okW := ok_of (tb_5 (List.mem_of_getElem? (i := 64) rfl)) rfl
theorem wCD_X5_find : Cond.code yX5_find cX5_find 3 (some .int) ∈ okW := ok_of (tb_5 (List.mem_of_getElem? (i := 65) rfl)) rfl
theorem wM_X5_21 : Cond.methodLink RX5 21 yJ7_fill_53178 ∈ okW := ok_of (tb_5 (List.mem_of_getElem? (i := 66) rfl)) rfl
theorem wM_X5_34 : Cond.methodLink RX5 34 yX5_goOn ∈ okW := ok_of (tb_5 (List.mem_of_getElem? (i := 67) rfl)) rfl
theorem wIM_X5_goOn : Cond.instanceMethod yX5_goOn ∈ okW := ok_of (tb_5 (List.mem_of_getElem? (i := 69) rfl)) rfl
theorem wCD_X5_goOn : Cond.code yX5_goOn cX5_goOn 8 none ∈ okW := ok_of (tb_5 (List.mem_of_getElem? (i := 70) rfl)) rfl
theorem wM_X5_43 : Cond.methodLink RX5 43 ⟨"java/lang/System", "arraycopy", "(Ljava/lang/Object;ILjava/lang/Object;II)V"⟩ ∈ okW := ok_of (tb_5 (List.mem_of_getElem? (i := 71) rfl)) rfl
theorem wM_X5_58 : Cond.methodLink RX5 58 yX5_ringsTogether ∈ okW := ok_of (tb_5 (List.mem_of_getElem? (i := 72) rfl)) rfl
theorem wIM_X5_ringsTogether : Cond.instanceMethod yX5_ringsTogether ∈ okW := ok_of (tb_5 (List.mem_of_getElem? (i := 74) rfl)) rfl
theorem wCD_X5_ringsTogether : Cond.code yX5_ringsTogether cX5_ringsTogether 5 (some .boolean) ∈ okW := ok_of (tb_5 (List.mem_of_getElem? (i := 75) rfl)) rfl
theorem wM_X5_65 : Cond.methodLink RX5 65 yJ9_abs_0f7a4 ∈ okW := ok_of (tb_5 (List.mem_of_getElem? (i := 76) rfl)) rfl
theorem wM_L_145 : Cond.methodLink RL 145 yX9_down ∈ okW := ok_of (tb_5 (List.mem_of_getElem? (i := 77) rfl)) rfl
theorem wIM_X9_down : Cond.instanceMethod yX9_down ∈ okW := ok_of (tb_5 (List.mem_of_getElem? (i := 78) rfl)) rfl
theorem wSE_X9_down : Cond.selects yX9_down.cls yX9_down yX9_down ∈ okW := ok_of (tb_5 (List.mem_of_getElem? (i := 79) rfl)) rfl
theorem wCD_X9_down : Cond.code yX9_down cX9_down 7 (some .int) ∈ okW := ok_of (tb_5 (List.mem_of_getElem? (i := 80) rfl)) rfl
theorem wM_L_149 : Cond.methodLink RL 149 yX9_enough ∈ okW := ok_of (tb_5 (List.mem_of_getElem? (i := 81) rfl)) rfl
theorem wIM_X9_enough : Cond.instanceMethod yX9_enough ∈ okW := ok_of (tb_5 (List.mem_of_getElem? (i := 82) rfl)) rfl
theorem wSE_X9_enough : Cond.selects yX9_enough.cls yX9_enough yX9_enough ∈ okW := ok_of (tb_5 (List.mem_of_getElem? (i := 83) rfl)) rfl
theorem wCD_X9_enough : Cond.code yX9_enough cX9_enough 9 (some .int) ∈ okW := ok_of (tb_5 (List.mem_of_getElem? (i := 84) rfl)) rfl
theorem wM_X9_341 : Cond.methodLink RX9 341 yX6_sumOf ∈ okW := ok_of (tb_5 (List.mem_of_getElem? (i := 85) rfl)) rfl
theorem wIM_X6_sumOf : Cond.instanceMethod yX6_sumOf ∈ okW := ok_of (tb_5 (List.mem_of_getElem? (i := 86) rfl)) rfl
theorem wSE_X6_sumOf : Cond.selects yX6_sumOf.cls yX6_sumOf yX6_sumOf ∈ okW := ok_of (tb_5 (List.mem_of_getElem? (i := 87) rfl)) rfl
theorem wCD_X6_sumOf : Cond.code yX6_sumOf cX6_sumOf 8 (some .int) ∈ okW := ok_of (tb_5 (List.mem_of_getElem? (i := 88) rfl)) rfl
theorem wM_X9_345 : Cond.methodLink RX9 345 yX9_ratio ∈ okW := ok_of (tb_5 (List.mem_of_getElem? (i := 89) rfl)) rfl
theorem wM_L_153 : Cond.methodLink RL 153 yX9_image ∈ okW := ok_of (tb_5 (List.mem_of_getElem? (i := 90) rfl)) rfl
theorem wIM_X9_image : Cond.instanceMethod yX9_image ∈ okW := ok_of (tb_5 (List.mem_of_getElem? (i := 91) rfl)) rfl
theorem wSE_X9_image : Cond.selects yX9_image.cls yX9_image yX9_image ∈ okW := ok_of (tb_5 (List.mem_of_getElem? (i := 92) rfl)) rfl
theorem wCD_X9_image : Cond.code yX9_image cX9_image 2 (some .boolean) ∈ okW := ok_of (tb_5 (List.mem_of_getElem? (i := 93) rfl)) rfl
theorem wM_X9_351 : Cond.methodLink RX9 351 yX8_copyFrom ∈ okW := ok_of (tb_5 (List.mem_of_getElem? (i := 94) rfl)) rfl
theorem wIM_X8_copyFrom : Cond.instanceMethod yX8_copyFrom ∈ okW := ok_of (tb_5 (List.mem_of_getElem? (i := 95) rfl)) rfl
theorem wSE_X8_copyFrom : Cond.selects yX8_copyFrom.cls yX8_copyFrom yX8_copyFrom ∈ okW := ok_of (tb_5 (List.mem_of_getElem? (i := 96) rfl)) rfl
theorem wCD_X8_copyFrom : Cond.code yX8_copyFrom cX8_copyFrom 3 none ∈ okW := ok_of (tb_5 (List.mem_of_getElem? (i := 97) rfl)) rfl
theorem wM_X8_60 : Cond.methodLink RX8 60 yX0_copyFrom ∈ okW := ok_of (tb_5 (List.mem_of_getElem? (i := 98) rfl)) rfl
theorem wIM_X0_copyFrom : Cond.instanceMethod yX0_copyFrom ∈ okW := ok_of (tb_5 (List.mem_of_getElem? (i := 99) rfl)) rfl
theorem wSE_X0_copyFrom : Cond.selects yX0_copyFrom.cls yX0_copyFrom yX0_copyFrom ∈ okW := ok_of (tb_5 (List.mem_of_getElem? (i := 100) rfl)) rfl
theorem wCD_X0_copyFrom : Cond.code yX0_copyFrom cX0_copyFrom 3 none ∈ okW := ok_of (tb_5 (List.mem_of_getElem? (i := 101) rfl)) rfl
theorem wM_X8_64 : Cond.methodLink RX8 64 yX7_copyFrom ∈ okW := ok_of (tb_5 (List.mem_of_getElem? (i := 102) rfl)) rfl
theorem wM_X8_70 : Cond.methodLink RX8 70 ⟨"java/lang/System", "arraycopy", "(Ljava/lang/Object;ILjava/lang/Object;II)V"⟩ ∈ okW := ok_of (tb_5 (List.mem_of_getElem? (i := 103) rfl)) rfl
theorem wM_L_158 : Cond.methodLink RL 158 yX9_look ∈ okW := ok_of (tb_5 (List.mem_of_getElem? (i := 104) rfl)) rfl
theorem wIM_X9_look : Cond.instanceMethod yX9_look ∈ okW := ok_of (tb_5 (List.mem_of_getElem? (i := 105) rfl)) rfl
theorem wSE_X9_look : Cond.selects yX9_look.cls yX9_look yX9_look ∈ okW := ok_of (tb_5 (List.mem_of_getElem? (i := 106) rfl)) rfl
theorem wCD_X9_look : Cond.code yX9_look cX9_look 2 (some .int) ∈ okW := ok_of (tb_5 (List.mem_of_getElem? (i := 107) rfl)) rfl
theorem wM_X9_354 : Cond.methodLink RX9 354 yX9_countLost ∈ okW := ok_of (tb_5 (List.mem_of_getElem? (i := 108) rfl)) rfl
theorem wIM_X9_countLost : Cond.instanceMethod yX9_countLost ∈ okW := ok_of (tb_5 (List.mem_of_getElem? (i := 110) rfl)) rfl
theorem wCD_X9_countLost : Cond.code yX9_countLost cX9_countLost 3 (some .int) ∈ okW := ok_of (tb_5 (List.mem_of_getElem? (i := 111) rfl)) rfl
theorem wM_X9_357 : Cond.methodLink RX9 357 yX9_countTrue ∈ okW := ok_of (tb_5 (List.mem_of_getElem? (i := 112) rfl)) rfl
theorem wIM_X9_countTrue : Cond.instanceMethod yX9_countTrue ∈ okW := ok_of (tb_5 (List.mem_of_getElem? (i := 114) rfl)) rfl
theorem wCD_X9_countTrue : Cond.code yX9_countTrue cX9_countTrue 3 (some .int) ∈ okW := ok_of (tb_5 (List.mem_of_getElem? (i := 115) rfl)) rfl
theorem wC_L_10 : Cond.classLink RL 10 RX10 ∈ okW := ok_of (tb_5 (List.mem_of_getElem? (i := 116) rfl)) rfl
theorem wIS_X10 : Cond.instantiable RX10 74 ∈ okW := ok_of (tb_5 (List.mem_of_getElem? (i := 117) rfl)) rfl
theorem wM_L_12 : Cond.methodLink RL 12 yX10_init ∈ okW := ok_of (tb_5 (List.mem_of_getElem? (i := 118) rfl)) rfl
theorem wIM_X10_init : Cond.instanceMethod yX10_init ∈ okW := ok_of (tb_5 (List.mem_of_getElem? (i := 119) rfl)) rfl
theorem wCD_X10_init : Cond.code yX10_init cX10_init 1 none ∈ okW := ok_of (tb_5 (List.mem_of_getElem? (i := 120) rfl)) rfl
theorem wM_X10_1 : Cond.methodLink RX10 1 objectInit ∈ okW := ok_of (tb_5 (List.mem_of_getElem? (i := 121) rfl)) rfl
theorem wF_X10_167 : Cond.fieldLink RX10 167 (TX10 0).1 (TX10 0).2.1 (TX10 0).2.2.1 ∈ okW := ok_of (tb_5 (List.mem_of_getElem? (i := 122) rfl)) rfl
theorem wF_X10_170 : Cond.fieldLink RX10 170 (TX10 1).1 (TX10 1).2.1 (TX10 1).2.2.1 ∈ okW := ok_of (tb_5 (List.mem_of_getElem? (i := 123) rfl)) rfl
theorem wF_X10_322 : Cond.fieldLink RX10 322 (TX10 2).1 (TX10 2).2.1 (TX10 2).2.2.1 ∈ okW := ok_of (tb_5 (List.mem_of_getElem? (i := 124) rfl)) rfl
theorem wF_X10_7 : Cond.fieldLink RX10 7 (TX10 3).1 (TX10 3).2.1 (TX10 3).2.2.1 ∈ okW := ok_of (tb_5 (List.mem_of_getElem? (i := 125) rfl)) rfl
theorem wF_X10_13 : Cond.fieldLink RX10 13 (TX10 4).1 (TX10 4).2.1 (TX10 4).2.2.1 ∈ okW := ok_of (tb_5 (List.mem_of_getElem? (i := 126) rfl)) rfl
theorem wF_X10_17 : Cond.fieldLink RX10 17 (TX10 5).1 (TX10 5).2.1 (TX10 5).2.2.1 ∈ okW := ok_of (tb_5 (List.mem_of_getElem? (i := 127) rfl)) rfl
theorem wF_X10_20 : Cond.fieldLink RX10 20 (TX10 6).1 (TX10 6).2.1 (TX10 6).2.2.1 ∈ okW := ok_of (tb_5 (List.mem_of_getElem? (i := 128) rfl)) rfl
theorem wF_X10_23 : Cond.fieldLink RX10 23 (TX10 7).1 (TX10 7).2.1 (TX10 7).2.2.1 ∈ okW := ok_of (tb_5 (List.mem_of_getElem? (i := 129) rfl)) rfl
theorem wF_X10_26 : Cond.fieldLink RX10 26 (TX10 8).1 (TX10 8).2.1 (TX10 8).2.2.1 ∈ okW := ok_of (tb_5 (List.mem_of_getElem? (i := 130) rfl)) rfl
theorem wF_X10_29 : Cond.fieldLink RX10 29 (TX10 9).1 (TX10 9).2.1 (TX10 9).2.2.1 ∈ okW := ok_of (tb_5 (List.mem_of_getElem? (i := 131) rfl)) rfl
theorem wF_X10_32 : Cond.fieldLink RX10 32 (TX10 10).1 (TX10 10).2.1 (TX10 10).2.2.1 ∈ okW := ok_of (tb_5 (List.mem_of_getElem? (i := 132) rfl)) rfl
theorem wF_X10_35 : Cond.fieldLink RX10 35 (TX10 11).1 (TX10 11).2.1 (TX10 11).2.2.1 ∈ okW := ok_of (tb_5 (List.mem_of_getElem? (i := 133) rfl)) rfl
theorem wF_X10_38 : Cond.fieldLink RX10 38 (TX10 12).1 (TX10 12).2.1 (TX10 12).2.2.1 ∈ okW := ok_of (tb_5 (List.mem_of_getElem? (i := 134) rfl)) rfl
theorem wF_X10_41 : Cond.fieldLink RX10 41 (TX10 13).1 (TX10 13).2.1 (TX10 13).2.2.1 ∈ okW := ok_of (tb_5 (List.mem_of_getElem? (i := 135) rfl)) rfl
theorem wF_X10_44 : Cond.fieldLink RX10 44 (TX10 14).1 (TX10 14).2.1 (TX10 14).2.2.1 ∈ okW := ok_of (tb_5 (List.mem_of_getElem? (i := 136) rfl)) rfl
theorem wF_X10_47 : Cond.fieldLink RX10 47 (TX10 15).1 (TX10 15).2.1 (TX10 15).2.2.1 ∈ okW := ok_of (tb_5 (List.mem_of_getElem? (i := 137) rfl)) rfl
theorem wF_X10_50 : Cond.fieldLink RX10 50 (TX10 16).1 (TX10 16).2.1 (TX10 16).2.2.1 ∈ okW := ok_of (tb_5 (List.mem_of_getElem? (i := 138) rfl)) rfl
theorem wF_X10_53 : Cond.fieldLink RX10 53 (TX10 17).1 (TX10 17).2.1 (TX10 17).2.2.1 ∈ okW := ok_of (tb_5 (List.mem_of_getElem? (i := 139) rfl)) rfl
theorem wF_X10_185 : Cond.fieldLink RX10 185 (TX10 18).1 (TX10 18).2.1 (TX10 18).2.2.1 ∈ okW := ok_of (tb_5 (List.mem_of_getElem? (i := 140) rfl)) rfl
theorem wF_X10_192 : Cond.fieldLink RX10 192 (TX10 19).1 (TX10 19).2.1 (TX10 19).2.2.1 ∈ okW := ok_of (tb_5 (List.mem_of_getElem? (i := 141) rfl)) rfl
theorem wF_X10_199 : Cond.fieldLink RX10 199 (TX10 20).1 (TX10 20).2.1 (TX10 20).2.2.1 ∈ okW := ok_of (tb_5 (List.mem_of_getElem? (i := 142) rfl)) rfl
theorem wF_X10_202 : Cond.fieldLink RX10 202 (TX10 21).1 (TX10 21).2.1 (TX10 21).2.2.1 ∈ okW := ok_of (tb_5 (List.mem_of_getElem? (i := 143) rfl)) rfl
theorem wF_X10_205 : Cond.fieldLink RX10 205 (TX10 22).1 (TX10 22).2.1 (TX10 22).2.2.1 ∈ okW := ok_of (tb_5 (List.mem_of_getElem? (i := 144) rfl)) rfl
theorem wF_X10_56 : Cond.fieldLink RX10 56 (TX10 23).1 (TX10 23).2.1 (TX10 23).2.2.1 ∈ okW := ok_of (tb_5 (List.mem_of_getElem? (i := 145) rfl)) rfl
theorem wF_X10_59 : Cond.fieldLink RX10 59 (TX10 24).1 (TX10 24).2.1 (TX10 24).2.2.1 ∈ okW := ok_of (tb_5 (List.mem_of_getElem? (i := 146) rfl)) rfl
theorem wF_X10_62 : Cond.fieldLink RX10 62 (TX10 25).1 (TX10 25).2.1 (TX10 25).2.2.1 ∈ okW := ok_of (tb_5 (List.mem_of_getElem? (i := 147) rfl)) rfl
theorem wF_X10_65 : Cond.fieldLink RX10 65 (TX10 26).1 (TX10 26).2.1 (TX10 26).2.2.1 ∈ okW := ok_of (tb_5 (List.mem_of_getElem? (i := 148) rfl)) rfl
theorem wF_X10_68 : Cond.fieldLink RX10 68 (TX10 27).1 (TX10 27).2.1 (TX10 27).2.2.1 ∈ okW := ok_of (tb_5 (List.mem_of_getElem? (i := 149) rfl)) rfl
theorem wF_X10_71 : Cond.fieldLink RX10 71 (TX10 28).1 (TX10 28).2.1 (TX10 28).2.2.1 ∈ okW := ok_of (tb_5 (List.mem_of_getElem? (i := 150) rfl)) rfl
theorem wF_X10_74 : Cond.fieldLink RX10 74 (TX10 29).1 (TX10 29).2.1 (TX10 29).2.2.1 ∈ okW := ok_of (tb_5 (List.mem_of_getElem? (i := 151) rfl)) rfl
theorem wF_X10_77 : Cond.fieldLink RX10 77 (TX10 30).1 (TX10 30).2.1 (TX10 30).2.2.1 ∈ okW := ok_of (tb_5 (List.mem_of_getElem? (i := 152) rfl)) rfl
theorem wF_X10_80 : Cond.fieldLink RX10 80 (TX10 31).1 (TX10 31).2.1 (TX10 31).2.2.1 ∈ okW := ok_of (tb_5 (List.mem_of_getElem? (i := 153) rfl)) rfl
theorem wF_X10_83 : Cond.fieldLink RX10 83 (TX10 32).1 (TX10 32).2.1 (TX10 32).2.2.1 ∈ okW := ok_of (tb_5 (List.mem_of_getElem? (i := 154) rfl)) rfl
theorem wF_X10_86 : Cond.fieldLink RX10 86 (TX10 33).1 (TX10 33).2.1 (TX10 33).2.2.1 ∈ okW := ok_of (tb_5 (List.mem_of_getElem? (i := 155) rfl)) rfl
theorem wF_X10_231 : Cond.fieldLink RX10 231 (TX10 34).1 (TX10 34).2.1 (TX10 34).2.2.1 ∈ okW := ok_of (tb_5 (List.mem_of_getElem? (i := 156) rfl)) rfl
theorem wF_X10_228 : Cond.fieldLink RX10 228 (TX10 35).1 (TX10 35).2.1 (TX10 35).2.2.1 ∈ okW := ok_of (tb_5 (List.mem_of_getElem? (i := 157) rfl)) rfl
theorem wF_X10_261 : Cond.fieldLink RX10 261 (TX10 36).1 (TX10 36).2.1 (TX10 36).2.2.1 ∈ okW := ok_of (tb_5 (List.mem_of_getElem? (i := 158) rfl)) rfl
theorem wF_X10_89 : Cond.fieldLink RX10 89 (TX10 37).1 (TX10 37).2.1 (TX10 37).2.2.1 ∈ okW := ok_of (tb_5 (List.mem_of_getElem? (i := 159) rfl)) rfl
theorem wF_X10_258 : Cond.fieldLink RX10 258 (TX10 38).1 (TX10 38).2.1 (TX10 38).2.2.1 ∈ okW := ok_of (tb_5 (List.mem_of_getElem? (i := 160) rfl)) rfl
theorem wF_X10_222 : Cond.fieldLink RX10 222 (TX10 39).1 (TX10 39).2.1 (TX10 39).2.2.1 ∈ okW := ok_of (tb_5 (List.mem_of_getElem? (i := 161) rfl)) rfl
theorem wF_X10_225 : Cond.fieldLink RX10 225 (TX10 40).1 (TX10 40).2.1 (TX10 40).2.2.1 ∈ okW := ok_of (tb_5 (List.mem_of_getElem? (i := 162) rfl)) rfl
theorem wF_X10_292 : Cond.fieldLink RX10 292 (TX10 41).1 (TX10 41).2.1 (TX10 41).2.2.1 ∈ okW := ok_of (tb_5 (List.mem_of_getElem? (i := 163) rfl)) rfl
theorem wF_X10_92 : Cond.fieldLink RX10 92 (TX10 42).1 (TX10 42).2.1 (TX10 42).2.2.1 ∈ okW := ok_of (tb_5 (List.mem_of_getElem? (i := 164) rfl)) rfl
theorem wF_X10_95 : Cond.fieldLink RX10 95 (TX10 43).1 (TX10 43).2.1 (TX10 43).2.2.1 ∈ okW := ok_of (tb_5 (List.mem_of_getElem? (i := 165) rfl)) rfl
theorem wF_X10_98 : Cond.fieldLink RX10 98 (TX10 44).1 (TX10 44).2.1 (TX10 44).2.2.1 ∈ okW := ok_of (tb_5 (List.mem_of_getElem? (i := 166) rfl)) rfl
theorem wF_X10_101 : Cond.fieldLink RX10 101 (TX10 45).1 (TX10 45).2.1 (TX10 45).2.2.1 ∈ okW := ok_of (tb_5 (List.mem_of_getElem? (i := 167) rfl)) rfl
theorem wF_X10_104 : Cond.fieldLink RX10 104 (TX10 46).1 (TX10 46).2.1 (TX10 46).2.2.1 ∈ okW := ok_of (tb_5 (List.mem_of_getElem? (i := 168) rfl)) rfl
theorem wF_X10_107 : Cond.fieldLink RX10 107 (TX10 47).1 (TX10 47).2.1 (TX10 47).2.2.1 ∈ okW := ok_of (tb_5 (List.mem_of_getElem? (i := 169) rfl)) rfl
theorem wF_X10_110 : Cond.fieldLink RX10 110 (TX10 48).1 (TX10 48).2.1 (TX10 48).2.2.1 ∈ okW := ok_of (tb_5 (List.mem_of_getElem? (i := 170) rfl)) rfl
theorem wF_X10_113 : Cond.fieldLink RX10 113 (TX10 49).1 (TX10 49).2.1 (TX10 49).2.2.1 ∈ okW := ok_of (tb_5 (List.mem_of_getElem? (i := 171) rfl)) rfl
theorem wF_X10_116 : Cond.fieldLink RX10 116 (TX10 50).1 (TX10 50).2.1 (TX10 50).2.2.1 ∈ okW := ok_of (tb_5 (List.mem_of_getElem? (i := 172) rfl)) rfl
theorem wF_X10_119 : Cond.fieldLink RX10 119 (TX10 51).1 (TX10 51).2.1 (TX10 51).2.2.1 ∈ okW := ok_of (tb_5 (List.mem_of_getElem? (i := 173) rfl)) rfl
theorem wF_X10_122 : Cond.fieldLink RX10 122 (TX10 52).1 (TX10 52).2.1 (TX10 52).2.2.1 ∈ okW := ok_of (tb_5 (List.mem_of_getElem? (i := 174) rfl)) rfl
theorem wF_X10_125 : Cond.fieldLink RX10 125 (TX10 53).1 (TX10 53).2.1 (TX10 53).2.2.1 ∈ okW := ok_of (tb_5 (List.mem_of_getElem? (i := 175) rfl)) rfl
theorem wF_X10_128 : Cond.fieldLink RX10 128 (TX10 54).1 (TX10 54).2.1 (TX10 54).2.2.1 ∈ okW := ok_of (tb_5 (List.mem_of_getElem? (i := 176) rfl)) rfl
theorem wF_X10_131 : Cond.fieldLink RX10 131 (TX10 55).1 (TX10 55).2.1 (TX10 55).2.2.1 ∈ okW := ok_of (tb_5 (List.mem_of_getElem? (i := 177) rfl)) rfl
theorem wF_X10_378 : Cond.fieldLink RX10 378 (TX10 56).1 (TX10 56).2.1 (TX10 56).2.2.1 ∈ okW := ok_of (tb_5 (List.mem_of_getElem? (i := 178) rfl)) rfl
theorem wF_X10_134 : Cond.fieldLink RX10 134 (TX10 57).1 (TX10 57).2.1 (TX10 57).2.2.1 ∈ okW := ok_of (tb_5 (List.mem_of_getElem? (i := 179) rfl)) rfl
theorem wF_X10_137 : Cond.fieldLink RX10 137 (TX10 58).1 (TX10 58).2.1 (TX10 58).2.2.1 ∈ okW := ok_of (tb_5 (List.mem_of_getElem? (i := 180) rfl)) rfl
theorem wF_X10_438 : Cond.fieldLink RX10 438 (TX10 59).1 (TX10 59).2.1 (TX10 59).2.2.1 ∈ okW := ok_of (tb_5 (List.mem_of_getElem? (i := 181) rfl)) rfl
theorem wF_X10_140 : Cond.fieldLink RX10 140 (TX10 60).1 (TX10 60).2.1 (TX10 60).2.2.1 ∈ okW := ok_of (tb_5 (List.mem_of_getElem? (i := 182) rfl)) rfl
theorem wF_X10_143 : Cond.fieldLink RX10 143 (TX10 61).1 (TX10 61).2.1 (TX10 61).2.2.1 ∈ okW := ok_of (tb_5 (List.mem_of_getElem? (i := 183) rfl)) rfl
theorem wF_X10_455 : Cond.fieldLink RX10 455 (TX10 62).1 (TX10 62).2.1 (TX10 62).2.2.1 ∈ okW := ok_of (tb_5 (List.mem_of_getElem? (i := 184) rfl)) rfl
theorem wF_X10_146 : Cond.fieldLink RX10 146 (TX10 63).1 (TX10 63).2.1 (TX10 63).2.2.1 ∈ okW := ok_of (tb_5 (List.mem_of_getElem? (i := 185) rfl)) rfl
theorem wF_X10_149 : Cond.fieldLink RX10 149 (TX10 64).1 (TX10 64).2.1 (TX10 64).2.2.1 ∈ okW := ok_of (tb_5 (List.mem_of_getElem? (i := 186) rfl)) rfl
theorem wF_X10_458 : Cond.fieldLink RX10 458 (TX10 65).1 (TX10 65).2.1 (TX10 65).2.2.1 ∈ okW := ok_of (tb_5 (List.mem_of_getElem? (i := 187) rfl)) rfl
theorem wF_X10_152 : Cond.fieldLink RX10 152 (TX10 66).1 (TX10 66).2.1 (TX10 66).2.2.1 ∈ okW := ok_of (tb_5 (List.mem_of_getElem? (i := 188) rfl)) rfl
theorem wF_X10_155 : Cond.fieldLink RX10 155 (TX10 67).1 (TX10 67).2.1 (TX10 67).2.2.1 ∈ okW := ok_of (tb_5 (List.mem_of_getElem? (i := 189) rfl)) rfl
theorem wF_X10_158 : Cond.fieldLink RX10 158 (TX10 68).1 (TX10 68).2.1 (TX10 68).2.2.1 ∈ okW := ok_of (tb_5 (List.mem_of_getElem? (i := 190) rfl)) rfl
theorem wF_X10_161 : Cond.fieldLink RX10 161 (TX10 69).1 (TX10 69).2.1 (TX10 69).2.2.1 ∈ okW := ok_of (tb_5 (List.mem_of_getElem? (i := 191) rfl)) rfl
theorem wF_X10_476 : Cond.fieldLink RX10 476 (TX10 70).1 (TX10 70).2.1 (TX10 70).2.2.1 ∈ okW := ok_of (tb_5 (List.mem_of_getElem? (i := 192) rfl)) rfl
theorem wF_X10_470 : Cond.fieldLink RX10 470 (TX10 71).1 (TX10 71).2.1 (TX10 71).2.2.1 ∈ okW := ok_of (tb_5 (List.mem_of_getElem? (i := 193) rfl)) rfl
theorem wF_X10_467 : Cond.fieldLink RX10 467 (TX10 72).1 (TX10 72).2.1 (TX10 72).2.2.1 ∈ okW := ok_of (tb_5 (List.mem_of_getElem? (i := 194) rfl)) rfl
theorem wF_X10_164 : Cond.fieldLink RX10 164 (TX10 73).1 (TX10 73).2.1 (TX10 73).2.2.1 ∈ okW := ok_of (tb_5 (List.mem_of_getElem? (i := 195) rfl)) rfl
theorem wLY_10_0 : u_lay RX10 TX10 0 ∈ okW := ok_of (tb_5 (List.mem_of_getElem? (i := 196) rfl)) rfl
theorem wLY_10_1 : u_lay RX10 TX10 1 ∈ okW := ok_of (tb_5 (List.mem_of_getElem? (i := 198) rfl)) rfl
theorem wLY_10_2 : u_lay RX10 TX10 2 ∈ okW := ok_of (tb_5 (List.mem_of_getElem? (i := 200) rfl)) rfl
theorem wLY_10_3 : u_lay RX10 TX10 3 ∈ okW := ok_of (tb_5 (List.mem_of_getElem? (i := 202) rfl)) rfl
theorem wLY_10_4 : u_lay RX10 TX10 4 ∈ okW := ok_of (tb_5 (List.mem_of_getElem? (i := 204) rfl)) rfl
theorem wLY_10_5 : u_lay RX10 TX10 5 ∈ okW := ok_of (tb_5 (List.mem_of_getElem? (i := 206) rfl)) rfl
theorem wLY_10_6 : u_lay RX10 TX10 6 ∈ okW := ok_of (tb_5 (List.mem_of_getElem? (i := 208) rfl)) rfl
theorem wLY_10_7 : u_lay RX10 TX10 7 ∈ okW := ok_of (tb_5 (List.mem_of_getElem? (i := 210) rfl)) rfl
theorem wLY_10_8 : u_lay RX10 TX10 8 ∈ okW := ok_of (tb_5 (List.mem_of_getElem? (i := 212) rfl)) rfl
theorem wLY_10_9 : u_lay RX10 TX10 9 ∈ okW := ok_of (tb_5 (List.mem_of_getElem? (i := 214) rfl)) rfl
theorem wLY_10_10 : u_lay RX10 TX10 10 ∈ okW := ok_of (tb_5 (List.mem_of_getElem? (i := 216) rfl)) rfl
theorem wLY_10_11 : u_lay RX10 TX10 11 ∈ okW := ok_of (tb_5 (List.mem_of_getElem? (i := 218) rfl)) rfl
theorem wLY_10_12 : u_lay RX10 TX10 12 ∈ okW := ok_of (tb_5 (List.mem_of_getElem? (i := 220) rfl)) rfl
theorem wLY_10_13 : u_lay RX10 TX10 13 ∈ okW := ok_of (tb_5 (List.mem_of_getElem? (i := 222) rfl)) rfl
theorem wLY_10_14 : u_lay RX10 TX10 14 ∈ okW := ok_of (tb_5 (List.mem_of_getElem? (i := 224) rfl)) rfl
theorem wLY_10_15 : u_lay RX10 TX10 15 ∈ okW := ok_of (tb_5 (List.mem_of_getElem? (i := 226) rfl)) rfl
theorem wLY_10_16 : u_lay RX10 TX10 16 ∈ okW := ok_of (tb_5 (List.mem_of_getElem? (i := 228) rfl)) rfl
theorem wLY_10_17 : u_lay RX10 TX10 17 ∈ okW := ok_of (tb_5 (List.mem_of_getElem? (i := 230) rfl)) rfl
theorem wLY_10_18 : u_lay RX10 TX10 18 ∈ okW := ok_of (tb_5 (List.mem_of_getElem? (i := 232) rfl)) rfl
theorem wLY_10_19 : u_lay RX10 TX10 19 ∈ okW := ok_of (tb_5 (List.mem_of_getElem? (i := 234) rfl)) rfl
theorem wLY_10_20 : u_lay RX10 TX10 20 ∈ okW := ok_of (tb_5 (List.mem_of_getElem? (i := 236) rfl)) rfl
theorem wLY_10_21 : u_lay RX10 TX10 21 ∈ okW := ok_of (tb_5 (List.mem_of_getElem? (i := 238) rfl)) rfl
theorem wLY_10_22 : u_lay RX10 TX10 22 ∈ okW := ok_of (tb_6 (List.mem_of_getElem? (i := 0) rfl)) rfl
theorem wLY_10_23 : u_lay RX10 TX10 23 ∈ okW := ok_of (tb_6 (List.mem_of_getElem? (i := 2) rfl)) rfl
theorem wLY_10_24 : u_lay RX10 TX10 24 ∈ okW := ok_of (tb_6 (List.mem_of_getElem? (i := 4) rfl)) rfl
theorem wLY_10_25 : u_lay RX10 TX10 25 ∈ okW := ok_of (tb_6 (List.mem_of_getElem? (i := 6) rfl)) rfl
theorem wLY_10_26 : u_lay RX10 TX10 26 ∈ okW := ok_of (tb_6 (List.mem_of_getElem? (i := 8) rfl)) rfl
theorem wLY_10_27 : u_lay RX10 TX10 27 ∈ okW := ok_of (tb_6 (List.mem_of_getElem? (i := 10) rfl)) rfl
theorem wLY_10_28 : u_lay RX10 TX10 28 ∈ okW := ok_of (tb_6 (List.mem_of_getElem? (i := 12) rfl)) rfl
theorem wLY_10_29 : u_lay RX10 TX10 29 ∈ okW := ok_of (tb_6 (List.mem_of_getElem? (i := 14) rfl)) rfl
theorem wLY_10_30 : u_lay RX10 TX10 30 ∈ okW := ok_of (tb_6 (List.mem_of_getElem? (i := 16) rfl)) rfl
theorem wLY_10_31 : u_lay RX10 TX10 31 ∈ okW := ok_of (tb_6 (List.mem_of_getElem? (i := 18) rfl)) rfl
theorem wLY_10_32 : u_lay RX10 TX10 32 ∈ okW := ok_of (tb_6 (List.mem_of_getElem? (i := 20) rfl)) rfl
theorem wLY_10_33 : u_lay RX10 TX10 33 ∈ okW := ok_of (tb_6 (List.mem_of_getElem? (i := 22) rfl)) rfl
theorem wLY_10_34 : u_lay RX10 TX10 34 ∈ okW := ok_of (tb_6 (List.mem_of_getElem? (i := 24) rfl)) rfl
theorem wLY_10_35 : u_lay RX10 TX10 35 ∈ okW := ok_of (tb_6 (List.mem_of_getElem? (i := 26) rfl)) rfl
theorem wLY_10_36 : u_lay RX10 TX10 36 ∈ okW := ok_of (tb_6 (List.mem_of_getElem? (i := 28) rfl)) rfl
theorem wLY_10_37 : u_lay RX10 TX10 37 ∈ okW := ok_of (tb_6 (List.mem_of_getElem? (i := 30) rfl)) rfl
theorem wLY_10_38 : u_lay RX10 TX10 38 ∈ okW := ok_of (tb_6 (List.mem_of_getElem? (i := 32) rfl)) rfl
theorem wLY_10_39 : u_lay RX10 TX10 39 ∈ okW := ok_of (tb_6 (List.mem_of_getElem? (i := 34) rfl)) rfl
theorem wLY_10_40 : u_lay RX10 TX10 40 ∈ okW := ok_of (tb_6 (List.mem_of_getElem? (i := 36) rfl)) rfl
theorem wLY_10_41 : u_lay RX10 TX10 41 ∈ okW := ok_of (tb_6 (List.mem_of_getElem? (i := 38) rfl)) rfl
theorem wLY_10_42 : u_lay RX10 TX10 42 ∈ okW := ok_of (tb_6 (List.mem_of_getElem? (i := 40) rfl)) rfl
theorem wLY_10_43 : u_lay RX10 TX10 43 ∈ okW := ok_of (tb_6 (List.mem_of_getElem? (i := 42) rfl)) rfl
theorem wLY_10_44 : u_lay RX10 TX10 44 ∈ okW := ok_of (tb_6 (List.mem_of_getElem? (i := 44) rfl)) rfl
theorem wLY_10_45 : u_lay RX10 TX10 45 ∈ okW := ok_of (tb_6 (List.mem_of_getElem? (i := 46) rfl)) rfl
theorem wLY_10_46 : u_lay RX10 TX10 46 ∈ okW := ok_of (tb_6 (List.mem_of_getElem? (i := 48) rfl)) rfl
theorem wLY_10_47 : u_lay RX10 TX10 47 ∈ okW := ok_of (tb_6 (List.mem_of_getElem? (i := 50) rfl)) rfl
theorem wLY_10_48 : u_lay RX10 TX10 48 ∈ okW := ok_of (tb_6 (List.mem_of_getElem? (i := 52) rfl)) rfl
theorem wLY_10_49 : u_lay RX10 TX10 49 ∈ okW := ok_of (tb_6 (List.mem_of_getElem? (i := 54) rfl)) rfl
theorem wLY_10_50 : u_lay RX10 TX10 50 ∈ okW := ok_of (tb_6 (List.mem_of_getElem? (i := 56) rfl)) rfl
theorem wLY_10_51 : u_lay RX10 TX10 51 ∈ okW := ok_of (tb_6 (List.mem_of_getElem? (i := 58) rfl)) rfl
theorem wLY_10_52 : u_lay RX10 TX10 52 ∈ okW := ok_of (tb_6 (List.mem_of_getElem? (i := 60) rfl)) rfl
theorem wLY_10_53 : u_lay RX10 TX10 53 ∈ okW := ok_of (tb_6 (List.mem_of_getElem? (i := 62) rfl)) rfl
theorem wLY_10_54 : u_lay RX10 TX10 54 ∈ okW := ok_of (tb_6 (List.mem_of_getElem? (i := 64) rfl)) rfl
theorem wLY_10_55 : u_lay RX10 TX10 55 ∈ okW := ok_of (tb_6 (List.mem_of_getElem? (i := 66) rfl)) rfl
theorem wLY_10_56 : u_lay RX10 TX10 56 ∈ okW := ok_of (tb_6 (List.mem_of_getElem? (i := 68) rfl)) rfl
theorem wLY_10_57 : u_lay RX10 TX10 57 ∈ okW := ok_of (tb_6 (List.mem_of_getElem? (i := 70) rfl)) rfl
theorem wLY_10_58 : u_lay RX10 TX10 58 ∈ okW := ok_of (tb_6 (List.mem_of_getElem? (i := 72) rfl)) rfl
theorem wLY_10_59 : u_lay RX10 TX10 59 ∈ okW := ok_of (tb_6 (List.mem_of_getElem? (i := 74) rfl)) rfl
theorem wLY_10_60 : u_lay RX10 TX10 60 ∈ okW := ok_of (tb_6 (List.mem_of_getElem? (i := 76) rfl)) rfl
theorem wLY_10_61 : u_lay RX10 TX10 61 ∈ okW := ok_of (tb_6 (List.mem_of_getElem? (i := 78) rfl)) rfl
theorem wLY_10_62 : u_lay RX10 TX10 62 ∈ okW := ok_of (tb_6 (List.mem_of_getElem? (i := 80) rfl)) rfl
theorem wLY_10_63 : u_lay RX10 TX10 63 ∈ okW := ok_of (tb_6 (List.mem_of_getElem? (i := 82) rfl)) rfl
theorem wLY_10_64 : u_lay RX10 TX10 64 ∈ okW := ok_of (tb_6 (List.mem_of_getElem? (i := 84) rfl)) rfl
theorem wLY_10_65 : u_lay RX10 TX10 65 ∈ okW := ok_of (tb_6 (List.mem_of_getElem? (i := 86) rfl)) rfl
theorem wLY_10_66 : u_lay RX10 TX10 66 ∈ okW := ok_of (tb_6 (List.mem_of_getElem? (i := 88) rfl)) rfl
theorem wLY_10_67 : u_lay RX10 TX10 67 ∈ okW := ok_of (tb_6 (List.mem_of_getElem? (i := 90) rfl)) rfl
theorem wLY_10_68 : u_lay RX10 TX10 68 ∈ okW := ok_of (tb_6 (List.mem_of_getElem? (i := 92) rfl)) rfl
theorem wLY_10_69 : u_lay RX10 TX10 69 ∈ okW := ok_of (tb_6 (List.mem_of_getElem? (i := 94) rfl)) rfl
theorem wLY_10_70 : u_lay RX10 TX10 70 ∈ okW := ok_of (tb_6 (List.mem_of_getElem? (i := 96) rfl)) rfl
theorem wLY_10_71 : u_lay RX10 TX10 71 ∈ okW := ok_of (tb_6 (List.mem_of_getElem? (i := 98) rfl)) rfl
theorem wLY_10_72 : u_lay RX10 TX10 72 ∈ okW := ok_of (tb_6 (List.mem_of_getElem? (i := 100) rfl)) rfl
theorem wLY_10_73 : u_lay RX10 TX10 73 ∈ okW := ok_of (tb_6 (List.mem_of_getElem? (i := 102) rfl)) rfl
theorem wM_L_17 : Cond.methodLink RL 17 yX10_bar ∈ okW := ok_of (tb_6 (List.mem_of_getElem? (i := 105) rfl)) rfl
theorem wIM_X10_bar : Cond.instanceMethod yX10_bar ∈ okW := ok_of (tb_6 (List.mem_of_getElem? (i := 106) rfl)) rfl
theorem wSE_X10_bar : Cond.selects yX10_bar.cls yX10_bar yX10_bar ∈ okW := ok_of (tb_6 (List.mem_of_getElem? (i := 107) rfl)) rfl
theorem wCD_X10_bar : Cond.code yX10_bar cX10_bar 3 (some .int) ∈ okW := ok_of (tb_6 (List.mem_of_getElem? (i := 108) rfl)) rfl
theorem wM_X10_177 : Cond.methodLink RX10 177 yX10_isIn ∈ okW := ok_of (tb_6 (List.mem_of_getElem? (i := 109) rfl)) rfl
theorem wIM_X10_isIn : Cond.instanceMethod yX10_isIn ∈ okW := ok_of (tb_6 (List.mem_of_getElem? (i := 111) rfl)) rfl
theorem wCD_X10_isIn : Cond.code yX10_isIn cX10_isIn 4 (some .boolean) ∈ okW := ok_of (tb_6 (List.mem_of_getElem? (i := 112) rfl)) rfl
theorem wM_L_22 : Cond.methodLink RL 22 yX10_slice ∈ okW := ok_of (tb_6 (List.mem_of_getElem? (i := 113) rfl)) rfl
theorem wIM_X10_slice : Cond.instanceMethod yX10_slice ∈ okW := ok_of (tb_6 (List.mem_of_getElem? (i := 114) rfl)) rfl
theorem wSE_X10_slice : Cond.selects yX10_slice.cls yX10_slice yX10_slice ∈ okW := ok_of (tb_6 (List.mem_of_getElem? (i := 115) rfl)) rfl
theorem wCD_X10_slice : Cond.code yX10_slice cX10_slice 6 (some .boolean) ∈ okW := ok_of (tb_6 (List.mem_of_getElem? (i := 116) rfl)) rfl
theorem wM_X10_181 : Cond.methodLink RX10 181 yX10_isSlice ∈ okW := ok_of (tb_6 (List.mem_of_getElem? (i := 117) rfl)) rfl
theorem wIM_X10_isSlice : Cond.instanceMethod yX10_isSlice ∈ okW := ok_of (tb_6 (List.mem_of_getElem? (i := 119) rfl)) rfl
theorem wCD_X10_isSlice : Cond.code yX10_isSlice cX10_isSlice 3 (some .boolean) ∈ okW := ok_of (tb_6 (List.mem_of_getElem? (i := 120) rfl)) rfl
theorem wM_X10_173 : Cond.methodLink RX10 173 yX10_isBar ∈ okW := ok_of (tb_6 (List.mem_of_getElem? (i := 121) rfl)) rfl
theorem wIM_X10_isBar : Cond.instanceMethod yX10_isBar ∈ okW := ok_of (tb_6 (List.mem_of_getElem? (i := 123) rfl)) rfl
theorem wCD_X10_isBar : Cond.code yX10_isBar cX10_isBar 2 (some .boolean) ∈ okW := ok_of (tb_6 (List.mem_of_getElem? (i := 124) rfl)) rfl
theorem wM_L_27 : Cond.methodLink RL 27 yX10_wax ∈ okW := ok_of (tb_6 (List.mem_of_getElem? (i := 125) rfl)) rfl
theorem wIM_X10_wax : Cond.instanceMethod yX10_wax ∈ okW := ok_of (tb_6 (List.mem_of_getElem? (i := 126) rfl)) rfl
theorem wSE_X10_wax : Cond.selects yX10_wax.cls yX10_wax yX10_wax ∈ okW := ok_of (tb_6 (List.mem_of_getElem? (i := 127) rfl)) rfl
theorem wCD_X10_wax : Cond.code yX10_wax cX10_wax 4 (some .boolean) ∈ okW := ok_of (tb_6 (List.mem_of_getElem? (i := 128) rfl)) rfl
theorem wM_L_32 : Cond.methodLink RL 32 yX10_of ∈ okW := ok_of (tb_6 (List.mem_of_getElem? (i := 129) rfl)) rfl
theorem wIM_X10_of : Cond.instanceMethod yX10_of ∈ okW := ok_of (tb_6 (List.mem_of_getElem? (i := 130) rfl)) rfl
theorem wSE_X10_of : Cond.selects yX10_of.cls yX10_of yX10_of ∈ okW := ok_of (tb_6 (List.mem_of_getElem? (i := 131) rfl)) rfl
theorem wCD_X10_of : Cond.code yX10_of cX10_of 5 (some .int) ∈ okW := ok_of (tb_6 (List.mem_of_getElem? (i := 132) rfl)) rfl
theorem wM_L_37 : Cond.methodLink RL 37 yX10_feed ∈ okW := ok_of (tb_6 (List.mem_of_getElem? (i := 133) rfl)) rfl
theorem wIM_X10_feed : Cond.instanceMethod yX10_feed ∈ okW := ok_of (tb_6 (List.mem_of_getElem? (i := 134) rfl)) rfl
theorem wSE_X10_feed : Cond.selects yX10_feed.cls yX10_feed yX10_feed ∈ okW := ok_of (tb_6 (List.mem_of_getElem? (i := 135) rfl)) rfl
theorem wCD_X10_feed : Cond.code yX10_feed cX10_feed 6 (some .int) ∈ okW := ok_of (tb_6 (List.mem_of_getElem? (i := 136) rfl)) rfl
theorem wM_X10_188 : Cond.methodLink RX10 188 yX10_puts ∈ okW := ok_of (tb_6 (List.mem_of_getElem? (i := 137) rfl)) rfl
theorem wIM_X10_puts : Cond.instanceMethod yX10_puts ∈ okW := ok_of (tb_6 (List.mem_of_getElem? (i := 139) rfl)) rfl
theorem wCD_X10_puts : Cond.code yX10_puts cX10_puts 3 none ∈ okW := ok_of (tb_6 (List.mem_of_getElem? (i := 140) rfl)) rfl
theorem wM_L_42 : Cond.methodLink RL 42 yX10_end ∈ okW := ok_of (tb_6 (List.mem_of_getElem? (i := 141) rfl)) rfl
theorem wIM_X10_end : Cond.instanceMethod yX10_end ∈ okW := ok_of (tb_6 (List.mem_of_getElem? (i := 142) rfl)) rfl
theorem wSE_X10_end : Cond.selects yX10_end.cls yX10_end yX10_end ∈ okW := ok_of (tb_6 (List.mem_of_getElem? (i := 143) rfl)) rfl
theorem wCD_X10_end : Cond.code yX10_end cX10_end 2 (some .boolean) ∈ okW := ok_of (tb_6 (List.mem_of_getElem? (i := 144) rfl)) rfl
theorem wM_L_47 : Cond.methodLink RL 47 yX10_text ∈ okW := ok_of (tb_6 (List.mem_of_getElem? (i := 145) rfl)) rfl
theorem wIM_X10_text : Cond.instanceMethod yX10_text ∈ okW := ok_of (tb_6 (List.mem_of_getElem? (i := 146) rfl)) rfl
theorem wSE_X10_text : Cond.selects yX10_text.cls yX10_text yX10_text ∈ okW := ok_of (tb_6 (List.mem_of_getElem? (i := 147) rfl)) rfl
theorem wCD_X10_text : Cond.code yX10_text cX10_text 7 (some .int) ∈ okW := ok_of (tb_6 (List.mem_of_getElem? (i := 148) rfl)) rfl
theorem wM_X10_242 : Cond.methodLink RX10 242 yX10_reads ∈ okW := ok_of (tb_6 (List.mem_of_getElem? (i := 149) rfl)) rfl
theorem wIM_X10_reads : Cond.instanceMethod yX10_reads ∈ okW := ok_of (tb_6 (List.mem_of_getElem? (i := 151) rfl)) rfl
theorem wCD_X10_reads : Cond.code yX10_reads cX10_reads 2 none ∈ okW := ok_of (tb_6 (List.mem_of_getElem? (i := 152) rfl)) rfl
theorem wM_X10_195 : Cond.methodLink RX10 195 yX10_raw ∈ okW := ok_of (tb_6 (List.mem_of_getElem? (i := 153) rfl)) rfl
theorem wIM_X10_raw : Cond.instanceMethod yX10_raw ∈ okW := ok_of (tb_6 (List.mem_of_getElem? (i := 155) rfl)) rfl
theorem wCD_X10_raw : Cond.code yX10_raw cX10_raw 2 (some .int) ∈ okW := ok_of (tb_6 (List.mem_of_getElem? (i := 156) rfl)) rfl
theorem wM_X10_208 : Cond.methodLink RX10 208 yX10_isLetter ∈ okW := ok_of (tb_6 (List.mem_of_getElem? (i := 157) rfl)) rfl
theorem wIM_X10_isLetter : Cond.instanceMethod yX10_isLetter ∈ okW := ok_of (tb_6 (List.mem_of_getElem? (i := 159) rfl)) rfl
theorem wCD_X10_isLetter : Cond.code yX10_isLetter cX10_isLetter 2 (some .boolean) ∈ okW := ok_of (tb_6 (List.mem_of_getElem? (i := 160) rfl)) rfl
theorem wM_X10_211 : Cond.methodLink RX10 211 yX10_wordAt ∈ okW := ok_of (tb_6 (List.mem_of_getElem? (i := 161) rfl)) rfl
theorem wIM_X10_wordAt : Cond.instanceMethod yX10_wordAt ∈ okW := ok_of (tb_6 (List.mem_of_getElem? (i := 163) rfl)) rfl
theorem wCD_X10_wordAt : Cond.code yX10_wordAt cX10_wordAt 6 (some .int) ∈ okW := ok_of (tb_6 (List.mem_of_getElem? (i := 164) rfl)) rfl
theorem wM_X10_215 : Cond.methodLink RX10 215 yX10_isDigit ∈ okW := ok_of (tb_6 (List.mem_of_getElem? (i := 165) rfl)) rfl
theorem wIM_X10_isDigit : Cond.instanceMethod yX10_isDigit ∈ okW := ok_of (tb_6 (List.mem_of_getElem? (i := 167) rfl)) rfl
theorem wCD_X10_isDigit : Cond.code yX10_isDigit cX10_isDigit 2 (some .boolean) ∈ okW := ok_of (tb_6 (List.mem_of_getElem? (i := 168) rfl)) rfl
theorem wK_X10_218 : Cond.constant RX10 218 (100000) ∈ okW := ok_of (tb_6 (List.mem_of_getElem? (i := 169) rfl)) rfl
theorem wM_X10_219 : Cond.methodLink RX10 219 yX10_isMarkSign ∈ okW := ok_of (tb_6 (List.mem_of_getElem? (i := 170) rfl)) rfl
theorem wIM_X10_isMarkSign : Cond.instanceMethod yX10_isMarkSign ∈ okW := ok_of (tb_6 (List.mem_of_getElem? (i := 172) rfl)) rfl
theorem wCD_X10_isMarkSign : Cond.code yX10_isMarkSign cX10_isMarkSign 2 (some .boolean) ∈ okW := ok_of (tb_6 (List.mem_of_getElem? (i := 173) rfl)) rfl
theorem wM_X10_295 : Cond.methodLink RX10 295 yX10_readText ∈ okW := ok_of (tb_6 (List.mem_of_getElem? (i := 174) rfl)) rfl
theorem wIM_X10_readText : Cond.instanceMethod yX10_readText ∈ okW := ok_of (tb_6 (List.mem_of_getElem? (i := 176) rfl)) rfl
theorem wCD_X10_readText : Cond.code yX10_readText cX10_readText 2 (some .int) ∈ okW := ok_of (tb_6 (List.mem_of_getElem? (i := 177) rfl)) rfl
theorem wM_X10_285 : Cond.methodLink RX10 285 yX10_isBegin ∈ okW := ok_of (tb_6 (List.mem_of_getElem? (i := 178) rfl)) rfl
theorem wIM_X10_isBegin : Cond.instanceMethod yX10_isBegin ∈ okW := ok_of (tb_6 (List.mem_of_getElem? (i := 180) rfl)) rfl
theorem wCD_X10_isBegin : Cond.code yX10_isBegin cX10_isBegin 1 (some .boolean) ∈ okW := ok_of (tb_6 (List.mem_of_getElem? (i := 181) rfl)) rfl
theorem wM_X10_235 : Cond.methodLink RX10 235 yX10_fails ∈ okW := ok_of (tb_6 (List.mem_of_getElem? (i := 182) rfl)) rfl
theorem wIM_X10_fails : Cond.instanceMethod yX10_fails ∈ okW := ok_of (tb_6 (List.mem_of_getElem? (i := 184) rfl)) rfl
theorem wCD_X10_fails : Cond.code yX10_fails cX10_fails 2 (some .int) ∈ okW := ok_of (tb_6 (List.mem_of_getElem? (i := 185) rfl)) rfl
theorem wM_X10_289 : Cond.methodLink RX10 289 yX10_readLine ∈ okW := ok_of (tb_6 (List.mem_of_getElem? (i := 186) rfl)) rfl
theorem wIM_X10_readLine : Cond.instanceMethod yX10_readLine ∈ okW := ok_of (tb_6 (List.mem_of_getElem? (i := 188) rfl)) rfl
theorem wCD_X10_readLine : Cond.code yX10_readLine cX10_readLine 3 (some .int) ∈ okW := ok_of (tb_6 (List.mem_of_getElem? (i := 189) rfl)) rfl
theorem wM_X10_279 : Cond.methodLink RX10 279 yX10_readNumbers ∈ okW := ok_of (tb_6 (List.mem_of_getElem? (i := 190) rfl)) rfl
theorem wIM_X10_readNumbers : Cond.instanceMethod yX10_readNumbers ∈ okW := ok_of (tb_6 (List.mem_of_getElem? (i := 192) rfl)) rfl
theorem wCD_X10_readNumbers : Cond.code yX10_readNumbers cX10_readNumbers 3 (some .int) ∈ okW := ok_of (tb_6 (List.mem_of_getElem? (i := 193) rfl)) rfl
theorem wM_X10_276 : Cond.methodLink RX10 276 yX10_readNumber ∈ okW := ok_of (tb_6 (List.mem_of_getElem? (i := 194) rfl)) rfl
theorem wIM_X10_readNumber : Cond.instanceMethod yX10_readNumber ∈ okW := ok_of (tb_6 (List.mem_of_getElem? (i := 196) rfl)) rfl
theorem wCD_X10_readNumber : Cond.code yX10_readNumber cX10_readNumber 4 (some .int) ∈ okW := ok_of (tb_6 (List.mem_of_getElem? (i := 197) rfl)) rfl
theorem wM_X10_255 : Cond.methodLink RX10 255 yX10_readSum ∈ okW := ok_of (tb_6 (List.mem_of_getElem? (i := 198) rfl)) rfl
theorem wIM_X10_readSum : Cond.instanceMethod yX10_readSum ∈ okW := ok_of (tb_6 (List.mem_of_getElem? (i := 200) rfl)) rfl
theorem wCD_X10_readSum : Cond.code yX10_readSum cX10_readSum 2 (some .int) ∈ okW := ok_of (tb_6 (List.mem_of_getElem? (i := 201) rfl)) rfl
theorem wM_X10_252 : Cond.methodLink RX10 252 yX10_readProduct ∈ okW := ok_of (tb_6 (List.mem_of_getElem? (i := 202) rfl)) rfl
theorem wIM_X10_readProduct : Cond.instanceMethod yX10_readProduct ∈ okW := ok_of (tb_6 (List.mem_of_getElem? (i := 204) rfl)) rfl
theorem wCD_X10_readProduct : Cond.code yX10_readProduct cX10_readProduct 2 (some .int) ∈ okW := ok_of (tb_6 (List.mem_of_getElem? (i := 205) rfl)) rfl
theorem wM_X10_245 : Cond.methodLink RX10 245 yX10_readUnit ∈ okW := ok_of (tb_6 (List.mem_of_getElem? (i := 206) rfl)) rfl
theorem wIM_X10_readUnit : Cond.instanceMethod yX10_readUnit ∈ okW := ok_of (tb_6 (List.mem_of_getElem? (i := 208) rfl)) rfl
theorem wCD_X10_readUnit : Cond.code yX10_readUnit cX10_readUnit 2 (some .int) ∈ okW := ok_of (tb_6 (List.mem_of_getElem? (i := 209) rfl)) rfl
theorem wM_X10_238 : Cond.methodLink RX10 238 yX10_emits ∈ okW := ok_of (tb_6 (List.mem_of_getElem? (i := 210) rfl)) rfl
theorem wIM_X10_emits : Cond.instanceMethod yX10_emits ∈ okW := ok_of (tb_6 (List.mem_of_getElem? (i := 212) rfl)) rfl
theorem wCD_X10_emits : Cond.code yX10_emits cX10_emits 3 none ∈ okW := ok_of (tb_6 (List.mem_of_getElem? (i := 213) rfl)) rfl
theorem wM_X10_249 : Cond.methodLink RX10 249 yX10_isSign ∈ okW := ok_of (tb_6 (List.mem_of_getElem? (i := 214) rfl)) rfl
theorem wIM_X10_isSign : Cond.instanceMethod yX10_isSign ∈ okW := ok_of (tb_6 (List.mem_of_getElem? (i := 216) rfl)) rfl
theorem wCD_X10_isSign : Cond.code yX10_isSign cX10_isSign 2 (some .boolean) ∈ okW := ok_of (tb_6 (List.mem_of_getElem? (i := 217) rfl)) rfl
theorem wM_X10_264 : Cond.methodLink RX10 264 yX10_isWord ∈ okW := ok_of (tb_6 (List.mem_of_getElem? (i := 218) rfl)) rfl
theorem wIM_X10_isWord : Cond.instanceMethod yX10_isWord ∈ okW := ok_of (tb_6 (List.mem_of_getElem? (i := 220) rfl)) rfl
theorem wCD_X10_isWord : Cond.code yX10_isWord cX10_isWord 2 (some .boolean) ∈ okW := ok_of (tb_6 (List.mem_of_getElem? (i := 221) rfl)) rfl
theorem wM_X10_282 : Cond.methodLink RX10 282 yX10_readAny ∈ okW := ok_of (tb_6 (List.mem_of_getElem? (i := 222) rfl)) rfl
theorem wIM_X10_readAny : Cond.instanceMethod yX10_readAny ∈ okW := ok_of (tb_6 (List.mem_of_getElem? (i := 224) rfl)) rfl
theorem wCD_X10_readAny : Cond.code yX10_readAny cX10_readAny 4 (some .int) ∈ okW := ok_of (tb_6 (List.mem_of_getElem? (i := 225) rfl)) rfl
theorem wM_X10_267 : Cond.methodLink RX10 267 yX10_waits ∈ okW := ok_of (tb_6 (List.mem_of_getElem? (i := 226) rfl)) rfl
theorem wIM_X10_waits : Cond.instanceMethod yX10_waits ∈ okW := ok_of (tb_6 (List.mem_of_getElem? (i := 228) rfl)) rfl
theorem wCD_X10_waits : Cond.code yX10_waits cX10_waits 2 none ∈ okW := ok_of (tb_6 (List.mem_of_getElem? (i := 229) rfl)) rfl
theorem wM_X10_270 : Cond.methodLink RX10 270 yX10_readCompared ∈ okW := ok_of (tb_6 (List.mem_of_getElem? (i := 230) rfl)) rfl
theorem wIM_X10_readCompared : Cond.instanceMethod yX10_readCompared ∈ okW := ok_of (tb_6 (List.mem_of_getElem? (i := 232) rfl)) rfl
theorem wCD_X10_readCompared : Cond.code yX10_readCompared cX10_readCompared 2 (some .int) ∈ okW := ok_of (tb_6 (List.mem_of_getElem? (i := 233) rfl)) rfl
theorem wM_X10_273 : Cond.methodLink RX10 273 yX10_settles ∈ okW := ok_of (tb_6 (List.mem_of_getElem? (i := 234) rfl)) rfl
theorem wIM_X10_settles : Cond.instanceMethod yX10_settles ∈ okW := ok_of (tb_6 (List.mem_of_getElem? (i := 236) rfl)) rfl
theorem wCD_X10_settles : Cond.code yX10_settles cX10_settles 2 none ∈ okW := ok_of (tb_6 (List.mem_of_getElem? (i := 237) rfl)) rfl
theorem wM_L_51 : Cond.methodLink RL 51 yX10_fault ∈ okW := ok_of (tb_6 (List.mem_of_getElem? (i := 238) rfl)) rfl
theorem wIM_X10_fault : Cond.instanceMethod yX10_fault ∈ okW := ok_of (tb_6 (List.mem_of_getElem? (i := 239) rfl)) rfl
theorem wSE_X10_fault : Cond.selects yX10_fault.cls yX10_fault yX10_fault ∈ okW := ok_of (tb_7 (List.mem_of_getElem? (i := 0) rfl)) rfl
theorem wCD_X10_fault : Cond.code yX10_fault cX10_fault 2 (some .int) ∈ okW := ok_of (tb_7 (List.mem_of_getElem? (i := 1) rfl)) rfl
theorem wM_L_55 : Cond.methodLink RL 55 yX10_force ∈ okW := ok_of (tb_7 (List.mem_of_getElem? (i := 2) rfl)) rfl
theorem wIM_X10_force : Cond.instanceMethod yX10_force ∈ okW := ok_of (tb_7 (List.mem_of_getElem? (i := 3) rfl)) rfl
theorem wSE_X10_force : Cond.selects yX10_force.cls yX10_force yX10_force ∈ okW := ok_of (tb_7 (List.mem_of_getElem? (i := 4) rfl)) rfl
theorem wCD_X10_force : Cond.code yX10_force cX10_force 3 (some .int) ∈ okW := ok_of (tb_7 (List.mem_of_getElem? (i := 5) rfl)) rfl
theorem wM_X10_328 : Cond.methodLink RX10 328 yX10_isLaw ∈ okW := ok_of (tb_7 (List.mem_of_getElem? (i := 6) rfl)) rfl
theorem wIM_X10_isLaw : Cond.instanceMethod yX10_isLaw ∈ okW := ok_of (tb_7 (List.mem_of_getElem? (i := 8) rfl)) rfl
theorem wCD_X10_isLaw : Cond.code yX10_isLaw cX10_isLaw 2 (some .boolean) ∈ okW := ok_of (tb_7 (List.mem_of_getElem? (i := 9) rfl)) rfl
theorem wM_L_59 : Cond.methodLink RL 59 yX10_tells ∈ okW := ok_of (tb_7 (List.mem_of_getElem? (i := 10) rfl)) rfl
theorem wIM_X10_tells : Cond.instanceMethod yX10_tells ∈ okW := ok_of (tb_7 (List.mem_of_getElem? (i := 11) rfl)) rfl
theorem wSE_X10_tells : Cond.selects yX10_tells.cls yX10_tells yX10_tells ∈ okW := ok_of (tb_7 (List.mem_of_getElem? (i := 12) rfl)) rfl
theorem wCD_X10_tells : Cond.code yX10_tells cX10_tells 6 (some .int) ∈ okW := ok_of (tb_7 (List.mem_of_getElem? (i := 13) rfl)) rfl
theorem wM_X10_331 : Cond.methodLink RX10 331 yX10_isTone ∈ okW := ok_of (tb_7 (List.mem_of_getElem? (i := 14) rfl)) rfl
theorem wIM_X10_isTone : Cond.instanceMethod yX10_isTone ∈ okW := ok_of (tb_7 (List.mem_of_getElem? (i := 16) rfl)) rfl
theorem wCD_X10_isTone : Cond.code yX10_isTone cX10_isTone 2 (some .boolean) ∈ okW := ok_of (tb_7 (List.mem_of_getElem? (i := 17) rfl)) rfl
theorem wK_X10_334 : Cond.constant RX10 334 (-100000) ∈ okW := ok_of (tb_7 (List.mem_of_getElem? (i := 18) rfl)) rfl
theorem wM_X10_316 : Cond.methodLink RX10 316 yX10_asksSlice ∈ okW := ok_of (tb_7 (List.mem_of_getElem? (i := 19) rfl)) rfl
theorem wIM_X10_asksSlice : Cond.instanceMethod yX10_asksSlice ∈ okW := ok_of (tb_7 (List.mem_of_getElem? (i := 21) rfl)) rfl
theorem wCD_X10_asksSlice : Cond.code yX10_asksSlice cX10_asksSlice 3 none ∈ okW := ok_of (tb_7 (List.mem_of_getElem? (i := 22) rfl)) rfl
theorem wM_X10_312 : Cond.methodLink RX10 312 yX10_asks ∈ okW := ok_of (tb_7 (List.mem_of_getElem? (i := 23) rfl)) rfl
theorem wIM_X10_asks : Cond.instanceMethod yX10_asks ∈ okW := ok_of (tb_7 (List.mem_of_getElem? (i := 25) rfl)) rfl
theorem wCD_X10_asks : Cond.code yX10_asks cX10_asks 8 none ∈ okW := ok_of (tb_7 (List.mem_of_getElem? (i := 26) rfl)) rfl
theorem wM_X10_309 : Cond.methodLink RX10 309 yX10_size ∈ okW := ok_of (tb_7 (List.mem_of_getElem? (i := 27) rfl)) rfl
theorem wIM_X10_size : Cond.instanceMethod yX10_size ∈ okW := ok_of (tb_7 (List.mem_of_getElem? (i := 29) rfl)) rfl
theorem wCD_X10_size : Cond.code yX10_size cX10_size 2 (some .int) ∈ okW := ok_of (tb_7 (List.mem_of_getElem? (i := 30) rfl)) rfl
theorem wM_X10_319 : Cond.methodLink RX10 319 yX10_tellsBy ∈ okW := ok_of (tb_7 (List.mem_of_getElem? (i := 31) rfl)) rfl
theorem wIM_X10_tellsBy : Cond.instanceMethod yX10_tellsBy ∈ okW := ok_of (tb_7 (List.mem_of_getElem? (i := 33) rfl)) rfl
theorem wCD_X10_tellsBy : Cond.code yX10_tellsBy cX10_tellsBy 8 (some .int) ∈ okW := ok_of (tb_7 (List.mem_of_getElem? (i := 34) rfl)) rfl
theorem wM_X10_305 : Cond.methodLink RX10 305 yX10_isSo ∈ okW := ok_of (tb_7 (List.mem_of_getElem? (i := 35) rfl)) rfl
theorem wIM_X10_isSo : Cond.instanceMethod yX10_isSo ∈ okW := ok_of (tb_7 (List.mem_of_getElem? (i := 37) rfl)) rfl
theorem wCD_X10_isSo : Cond.code yX10_isSo cX10_isSo 3 (some .boolean) ∈ okW := ok_of (tb_7 (List.mem_of_getElem? (i := 38) rfl)) rfl
theorem wM_X10_302 : Cond.methodLink RX10 302 yX10_worth ∈ okW := ok_of (tb_7 (List.mem_of_getElem? (i := 39) rfl)) rfl
theorem wIM_X10_worth : Cond.instanceMethod yX10_worth ∈ okW := ok_of (tb_7 (List.mem_of_getElem? (i := 41) rfl)) rfl
theorem wCD_X10_worth : Cond.code yX10_worth cX10_worth 6 (some .int) ∈ okW := ok_of (tb_7 (List.mem_of_getElem? (i := 42) rfl)) rfl
theorem wM_X10_298 : Cond.methodLink RX10 298 yX10_twoOf ∈ okW := ok_of (tb_7 (List.mem_of_getElem? (i := 43) rfl)) rfl
theorem wIM_X10_twoOf : Cond.instanceMethod yX10_twoOf ∈ okW := ok_of (tb_7 (List.mem_of_getElem? (i := 45) rfl)) rfl
theorem wCD_X10_twoOf : Cond.code yX10_twoOf cX10_twoOf 4 (some .int) ∈ okW := ok_of (tb_7 (List.mem_of_getElem? (i := 46) rfl)) rfl
theorem wK_X10_308 : Cond.constant RX10 308 (99999) ∈ okW := ok_of (tb_7 (List.mem_of_getElem? (i := 47) rfl)) rfl
theorem wM_L_63 : Cond.methodLink RL 63 yX10_tone ∈ okW := ok_of (tb_7 (List.mem_of_getElem? (i := 48) rfl)) rfl
theorem wIM_X10_tone : Cond.instanceMethod yX10_tone ∈ okW := ok_of (tb_7 (List.mem_of_getElem? (i := 49) rfl)) rfl
theorem wSE_X10_tone : Cond.selects yX10_tone.cls yX10_tone yX10_tone ∈ okW := ok_of (tb_7 (List.mem_of_getElem? (i := 50) rfl)) rfl
theorem wCD_X10_tone : Cond.code yX10_tone cX10_tone 3 (some .int) ∈ okW := ok_of (tb_7 (List.mem_of_getElem? (i := 51) rfl)) rfl
theorem wM_X10_335 : Cond.methodLink RX10 335 yX10_toneNow ∈ okW := ok_of (tb_7 (List.mem_of_getElem? (i := 52) rfl)) rfl
theorem wIM_X10_toneNow : Cond.instanceMethod yX10_toneNow ∈ okW := ok_of (tb_7 (List.mem_of_getElem? (i := 54) rfl)) rfl
theorem wCD_X10_toneNow : Cond.code yX10_toneNow cX10_toneNow 3 (some .int) ∈ okW := ok_of (tb_7 (List.mem_of_getElem? (i := 55) rfl)) rfl
theorem wM_X10_325 : Cond.methodLink RX10 325 yX10_toneBy ∈ okW := ok_of (tb_7 (List.mem_of_getElem? (i := 56) rfl)) rfl
theorem wIM_X10_toneBy : Cond.instanceMethod yX10_toneBy ∈ okW := ok_of (tb_7 (List.mem_of_getElem? (i := 58) rfl)) rfl
theorem wCD_X10_toneBy : Cond.code yX10_toneBy cX10_toneBy 7 (some .int) ∈ okW := ok_of (tb_7 (List.mem_of_getElem? (i := 59) rfl)) rfl
theorem wM_L_67 : Cond.methodLink RL 67 yX10_shave ∈ okW := ok_of (tb_7 (List.mem_of_getElem? (i := 60) rfl)) rfl
theorem wIM_X10_shave : Cond.instanceMethod yX10_shave ∈ okW := ok_of (tb_7 (List.mem_of_getElem? (i := 61) rfl)) rfl
theorem wSE_X10_shave : Cond.selects yX10_shave.cls yX10_shave yX10_shave ∈ okW := ok_of (tb_7 (List.mem_of_getElem? (i := 62) rfl)) rfl
theorem wCD_X10_shave : Cond.code yX10_shave cX10_shave 4 (some .int) ∈ okW := ok_of (tb_7 (List.mem_of_getElem? (i := 63) rfl)) rfl
theorem wM_X10_341 : Cond.methodLink RX10 341 yX10_canPass ∈ okW := ok_of (tb_7 (List.mem_of_getElem? (i := 64) rfl)) rfl
theorem wIM_X10_canPass : Cond.instanceMethod yX10_canPass ∈ okW := ok_of (tb_7 (List.mem_of_getElem? (i := 66) rfl)) rfl
theorem wCD_X10_canPass : Cond.code yX10_canPass cX10_canPass 4 (some .boolean) ∈ okW := ok_of (tb_7 (List.mem_of_getElem? (i := 67) rfl)) rfl
theorem wM_X10_344 : Cond.methodLink RX10 344 yX10_takesOff ∈ okW := ok_of (tb_7 (List.mem_of_getElem? (i := 68) rfl)) rfl
theorem wIM_X10_takesOff : Cond.instanceMethod yX10_takesOff ∈ okW := ok_of (tb_7 (List.mem_of_getElem? (i := 70) rfl)) rfl
theorem wCD_X10_takesOff : Cond.code yX10_takesOff cX10_takesOff 4 none ∈ okW := ok_of (tb_7 (List.mem_of_getElem? (i := 71) rfl)) rfl
theorem wM_X10_338 : Cond.methodLink RX10 338 yX10_isLost ∈ okW := ok_of (tb_7 (List.mem_of_getElem? (i := 72) rfl)) rfl
theorem wIM_X10_isLost : Cond.instanceMethod yX10_isLost ∈ okW := ok_of (tb_7 (List.mem_of_getElem? (i := 74) rfl)) rfl
theorem wCD_X10_isLost : Cond.code yX10_isLost cX10_isLost 3 (some .boolean) ∈ okW := ok_of (tb_7 (List.mem_of_getElem? (i := 75) rfl)) rfl
theorem wM_L_71 : Cond.methodLink RL 71 yX10_pass ∈ okW := ok_of (tb_7 (List.mem_of_getElem? (i := 76) rfl)) rfl
theorem wIM_X10_pass : Cond.instanceMethod yX10_pass ∈ okW := ok_of (tb_7 (List.mem_of_getElem? (i := 77) rfl)) rfl
theorem wSE_X10_pass : Cond.selects yX10_pass.cls yX10_pass yX10_pass ∈ okW := ok_of (tb_7 (List.mem_of_getElem? (i := 78) rfl)) rfl
theorem wCD_X10_pass : Cond.code yX10_pass cX10_pass 4 (some .int) ∈ okW := ok_of (tb_7 (List.mem_of_getElem? (i := 79) rfl)) rfl
theorem wM_L_75 : Cond.methodLink RL 75 yX10_goal ∈ okW := ok_of (tb_7 (List.mem_of_getElem? (i := 80) rfl)) rfl
theorem wIM_X10_goal : Cond.instanceMethod yX10_goal ∈ okW := ok_of (tb_7 (List.mem_of_getElem? (i := 81) rfl)) rfl
theorem wSE_X10_goal : Cond.selects yX10_goal.cls yX10_goal yX10_goal ∈ okW := ok_of (tb_7 (List.mem_of_getElem? (i := 82) rfl)) rfl
theorem wCD_X10_goal : Cond.code yX10_goal cX10_goal 4 (some .boolean) ∈ okW := ok_of (tb_7 (List.mem_of_getElem? (i := 83) rfl)) rfl
theorem wK_X10_348 : Cond.constant RX10 348 (999999) ∈ okW := ok_of (tb_7 (List.mem_of_getElem? (i := 84) rfl)) rfl
theorem wM_L_79 : Cond.methodLink RL 79 yX10_slack ∈ okW := ok_of (tb_7 (List.mem_of_getElem? (i := 85) rfl)) rfl
theorem wIM_X10_slack : Cond.instanceMethod yX10_slack ∈ okW := ok_of (tb_7 (List.mem_of_getElem? (i := 86) rfl)) rfl
theorem wSE_X10_slack : Cond.selects yX10_slack.cls yX10_slack yX10_slack ∈ okW := ok_of (tb_7 (List.mem_of_getElem? (i := 87) rfl)) rfl
theorem wCD_X10_slack : Cond.code yX10_slack cX10_slack 2 (some .boolean) ∈ okW := ok_of (tb_7 (List.mem_of_getElem? (i := 88) rfl)) rfl
theorem wM_L_87 : Cond.methodLink RL 87 yX10_takes ∈ okW := ok_of (tb_7 (List.mem_of_getElem? (i := 89) rfl)) rfl
theorem wIM_X10_takes : Cond.instanceMethod yX10_takes ∈ okW := ok_of (tb_7 (List.mem_of_getElem? (i := 90) rfl)) rfl
theorem wSE_X10_takes : Cond.selects yX10_takes.cls yX10_takes yX10_takes ∈ okW := ok_of (tb_7 (List.mem_of_getElem? (i := 91) rfl)) rfl
theorem wCD_X10_takes : Cond.code yX10_takes cX10_takes 6 (some .int) ∈ okW := ok_of (tb_7 (List.mem_of_getElem? (i := 92) rfl)) rfl
theorem wK_X10_349 : Cond.constant RX10 349 (-10000000) ∈ okW := ok_of (tb_7 (List.mem_of_getElem? (i := 93) rfl)) rfl
theorem wM_L_91 : Cond.methodLink RL 91 yX10_job ∈ okW := ok_of (tb_7 (List.mem_of_getElem? (i := 94) rfl)) rfl
theorem wIM_X10_job : Cond.instanceMethod yX10_job ∈ okW := ok_of (tb_7 (List.mem_of_getElem? (i := 95) rfl)) rfl
theorem wSE_X10_job : Cond.selects yX10_job.cls yX10_job yX10_job ∈ okW := ok_of (tb_7 (List.mem_of_getElem? (i := 96) rfl)) rfl
theorem wCD_X10_job : Cond.code yX10_job cX10_job 6 (some .int) ∈ okW := ok_of (tb_7 (List.mem_of_getElem? (i := 97) rfl)) rfl
theorem wM_X10_350 : Cond.methodLink RX10 350 yX10_asksJob ∈ okW := ok_of (tb_7 (List.mem_of_getElem? (i := 98) rfl)) rfl
theorem wIM_X10_asksJob : Cond.instanceMethod yX10_asksJob ∈ okW := ok_of (tb_7 (List.mem_of_getElem? (i := 100) rfl)) rfl
theorem wCD_X10_asksJob : Cond.code yX10_asksJob cX10_asksJob 6 none ∈ okW := ok_of (tb_7 (List.mem_of_getElem? (i := 101) rfl)) rfl
theorem wM_X10_353 : Cond.methodLink RX10 353 yX10_doesLine ∈ okW := ok_of (tb_7 (List.mem_of_getElem? (i := 102) rfl)) rfl
theorem wIM_X10_doesLine : Cond.instanceMethod yX10_doesLine ∈ okW := ok_of (tb_7 (List.mem_of_getElem? (i := 104) rfl)) rfl
theorem wCD_X10_doesLine : Cond.code yX10_doesLine cX10_doesLine 7 none ∈ okW := ok_of (tb_7 (List.mem_of_getElem? (i := 105) rfl)) rfl
theorem wM_L_95 : Cond.methodLink RL 95 yX10_fewest ∈ okW := ok_of (tb_7 (List.mem_of_getElem? (i := 106) rfl)) rfl
theorem wIM_X10_fewest : Cond.instanceMethod yX10_fewest ∈ okW := ok_of (tb_7 (List.mem_of_getElem? (i := 107) rfl)) rfl
theorem wSE_X10_fewest : Cond.selects yX10_fewest.cls yX10_fewest yX10_fewest ∈ okW := ok_of (tb_7 (List.mem_of_getElem? (i := 108) rfl)) rfl
theorem wCD_X10_fewest : Cond.code yX10_fewest cX10_fewest 4 (some .int) ∈ okW := ok_of (tb_7 (List.mem_of_getElem? (i := 109) rfl)) rfl
theorem wM_X10_371 : Cond.methodLink RX10 371 yX10_findsFewest ∈ okW := ok_of (tb_7 (List.mem_of_getElem? (i := 110) rfl)) rfl
theorem wIM_X10_findsFewest : Cond.instanceMethod yX10_findsFewest ∈ okW := ok_of (tb_7 (List.mem_of_getElem? (i := 112) rfl)) rfl
theorem wCD_X10_findsFewest : Cond.code yX10_findsFewest cX10_findsFewest 4 (some .int) ∈ okW := ok_of (tb_7 (List.mem_of_getElem? (i := 113) rfl)) rfl
theorem wM_X10_362 : Cond.methodLink RX10 362 yX10_findsTable ∈ okW := ok_of (tb_7 (List.mem_of_getElem? (i := 114) rfl)) rfl
theorem wIM_X10_findsTable : Cond.instanceMethod yX10_findsTable ∈ okW := ok_of (tb_7 (List.mem_of_getElem? (i := 116) rfl)) rfl
theorem wCD_X10_findsTable : Cond.code yX10_findsTable cX10_findsTable 6 none ∈ okW := ok_of (tb_7 (List.mem_of_getElem? (i := 117) rfl)) rfl
theorem wM_X10_365 : Cond.methodLink RX10 365 yX10_does ∈ okW := ok_of (tb_7 (List.mem_of_getElem? (i := 118) rfl)) rfl
theorem wIM_X10_does : Cond.instanceMethod yX10_does ∈ okW := ok_of (tb_7 (List.mem_of_getElem? (i := 120) rfl)) rfl
theorem wCD_X10_does : Cond.code yX10_does cX10_does 6 (some .boolean) ∈ okW := ok_of (tb_7 (List.mem_of_getElem? (i := 121) rfl)) rfl
theorem wM_X10_359 : Cond.methodLink RX10 359 yX10_wouldBe ∈ okW := ok_of (tb_7 (List.mem_of_getElem? (i := 122) rfl)) rfl
theorem wIM_X10_wouldBe : Cond.instanceMethod yX10_wouldBe ∈ okW := ok_of (tb_7 (List.mem_of_getElem? (i := 124) rfl)) rfl
theorem wCD_X10_wouldBe : Cond.code yX10_wouldBe cX10_wouldBe 6 (some .int) ∈ okW := ok_of (tb_7 (List.mem_of_getElem? (i := 125) rfl)) rfl
theorem wM_X10_356 : Cond.methodLink RX10 356 yX10_toneByTable ∈ okW := ok_of (tb_7 (List.mem_of_getElem? (i := 126) rfl)) rfl
theorem wIM_X10_toneByTable : Cond.instanceMethod yX10_toneByTable ∈ okW := ok_of (tb_7 (List.mem_of_getElem? (i := 128) rfl)) rfl
theorem wCD_X10_toneByTable : Cond.code yX10_toneByTable cX10_toneByTable 6 (some .int) ∈ okW := ok_of (tb_7 (List.mem_of_getElem? (i := 129) rfl)) rfl
theorem wM_X10_368 : Cond.methodLink RX10 368 yX10_goesOn ∈ okW := ok_of (tb_7 (List.mem_of_getElem? (i := 130) rfl)) rfl
theorem wIM_X10_goesOn : Cond.instanceMethod yX10_goesOn ∈ okW := ok_of (tb_7 (List.mem_of_getElem? (i := 132) rfl)) rfl
theorem wCD_X10_goesOn : Cond.code yX10_goesOn cX10_goesOn 4 (some .boolean) ∈ okW := ok_of (tb_7 (List.mem_of_getElem? (i := 133) rfl)) rfl
theorem wM_L_99 : Cond.methodLink RL 99 yX10_tap ∈ okW := ok_of (tb_7 (List.mem_of_getElem? (i := 134) rfl)) rfl
theorem wIM_X10_tap : Cond.instanceMethod yX10_tap ∈ okW := ok_of (tb_7 (List.mem_of_getElem? (i := 135) rfl)) rfl
theorem wSE_X10_tap : Cond.selects yX10_tap.cls yX10_tap yX10_tap ∈ okW := ok_of (tb_7 (List.mem_of_getElem? (i := 136) rfl)) rfl
theorem wCD_X10_tap : Cond.code yX10_tap cX10_tap 6 (some .int) ∈ okW := ok_of (tb_7 (List.mem_of_getElem? (i := 137) rfl)) rfl
theorem wK_X10_374 : Cond.constant RX10 374 (9999999) ∈ okW := ok_of (tb_7 (List.mem_of_getElem? (i := 138) rfl)) rfl
theorem wM_L_104 : Cond.methodLink RL 104 yX10_fits ∈ okW := ok_of (tb_7 (List.mem_of_getElem? (i := 139) rfl)) rfl
theorem wIM_X10_fits : Cond.instanceMethod yX10_fits ∈ okW := ok_of (tb_7 (List.mem_of_getElem? (i := 140) rfl)) rfl
theorem wSE_X10_fits : Cond.selects yX10_fits.cls yX10_fits yX10_fits ∈ okW := ok_of (tb_7 (List.mem_of_getElem? (i := 141) rfl)) rfl
theorem wCD_X10_fits : Cond.code yX10_fits cX10_fits 5 (some .int) ∈ okW := ok_of (tb_7 (List.mem_of_getElem? (i := 142) rfl)) rfl
theorem wM_X10_387 : Cond.methodLink RX10 387 yX10_findsFits ∈ okW := ok_of (tb_7 (List.mem_of_getElem? (i := 143) rfl)) rfl
theorem wIM_X10_findsFits : Cond.instanceMethod yX10_findsFits ∈ okW := ok_of (tb_7 (List.mem_of_getElem? (i := 145) rfl)) rfl
theorem wCD_X10_findsFits : Cond.code yX10_findsFits cX10_findsFits 7 none ∈ okW := ok_of (tb_7 (List.mem_of_getElem? (i := 146) rfl)) rfl
theorem wM_X10_381 : Cond.methodLink RX10 381 yX10_fitsAll ∈ okW := ok_of (tb_7 (List.mem_of_getElem? (i := 147) rfl)) rfl
theorem wIM_X10_fitsAll : Cond.instanceMethod yX10_fitsAll ∈ okW := ok_of (tb_7 (List.mem_of_getElem? (i := 149) rfl)) rfl
theorem wCD_X10_fitsAll : Cond.code yX10_fitsAll cX10_fitsAll 4 (some .boolean) ∈ okW := ok_of (tb_7 (List.mem_of_getElem? (i := 150) rfl)) rfl
theorem wM_X10_375 : Cond.methodLink RX10 375 yX10_toneOf ∈ okW := ok_of (tb_7 (List.mem_of_getElem? (i := 151) rfl)) rfl
theorem wIM_X10_toneOf : Cond.instanceMethod yX10_toneOf ∈ okW := ok_of (tb_7 (List.mem_of_getElem? (i := 153) rfl)) rfl
theorem wCD_X10_toneOf : Cond.code yX10_toneOf cX10_toneOf 7 (some .int) ∈ okW := ok_of (tb_7 (List.mem_of_getElem? (i := 154) rfl)) rfl
theorem wM_X10_390 : Cond.methodLink RX10 390 yX10_nextPass ∈ okW := ok_of (tb_7 (List.mem_of_getElem? (i := 155) rfl)) rfl
theorem wIM_X10_nextPass : Cond.instanceMethod yX10_nextPass ∈ okW := ok_of (tb_7 (List.mem_of_getElem? (i := 157) rfl)) rfl
theorem wCD_X10_nextPass : Cond.code yX10_nextPass cX10_nextPass 6 (some .int) ∈ okW := ok_of (tb_7 (List.mem_of_getElem? (i := 158) rfl)) rfl
theorem wM_X10_384 : Cond.methodLink RX10 384 yX10_unlikeBy ∈ okW := ok_of (tb_7 (List.mem_of_getElem? (i := 159) rfl)) rfl
theorem wIM_X10_unlikeBy : Cond.instanceMethod yX10_unlikeBy ∈ okW := ok_of (tb_7 (List.mem_of_getElem? (i := 161) rfl)) rfl
theorem wCD_X10_unlikeBy : Cond.code yX10_unlikeBy cX10_unlikeBy 8 (some .int) ∈ okW := ok_of (tb_7 (List.mem_of_getElem? (i := 162) rfl)) rfl
theorem wM_X10_393 : Cond.methodLink RX10 393 yX10_sureOf ∈ okW := ok_of (tb_7 (List.mem_of_getElem? (i := 163) rfl)) rfl
theorem wIM_X10_sureOf : Cond.instanceMethod yX10_sureOf ∈ okW := ok_of (tb_7 (List.mem_of_getElem? (i := 165) rfl)) rfl
theorem wCD_X10_sureOf : Cond.code yX10_sureOf cX10_sureOf 3 (some .int) ∈ okW := ok_of (tb_7 (List.mem_of_getElem? (i := 166) rfl)) rfl
theorem wM_L_108 : Cond.methodLink RL 108 yX10_off ∈ okW := ok_of (tb_7 (List.mem_of_getElem? (i := 167) rfl)) rfl
theorem wIM_X10_off : Cond.instanceMethod yX10_off ∈ okW := ok_of (tb_7 (List.mem_of_getElem? (i := 168) rfl)) rfl
theorem wSE_X10_off : Cond.selects yX10_off.cls yX10_off yX10_off ∈ okW := ok_of (tb_7 (List.mem_of_getElem? (i := 169) rfl)) rfl
theorem wCD_X10_off : Cond.code yX10_off cX10_off 2 (some .int) ∈ okW := ok_of (tb_7 (List.mem_of_getElem? (i := 170) rfl)) rfl
theorem wM_X10_399 : Cond.methodLink RX10 399 yX10_offOf ∈ okW := ok_of (tb_7 (List.mem_of_getElem? (i := 171) rfl)) rfl
theorem wIM_X10_offOf : Cond.instanceMethod yX10_offOf ∈ okW := ok_of (tb_7 (List.mem_of_getElem? (i := 173) rfl)) rfl
theorem wCD_X10_offOf : Cond.code yX10_offOf cX10_offOf 6 (some .int) ∈ okW := ok_of (tb_7 (List.mem_of_getElem? (i := 174) rfl)) rfl
theorem wK_X10_396 : Cond.constantLong RX10 396 (999999999) ∈ okW := ok_of (tb_7 (List.mem_of_getElem? (i := 175) rfl)) rfl
theorem wK_X10_398 : Cond.constant RX10 398 (999999999) ∈ okW := ok_of (tb_7 (List.mem_of_getElem? (i := 176) rfl)) rfl
theorem wM_L_112 : Cond.methodLink RL 112 yX10_still ∈ okW := ok_of (tb_7 (List.mem_of_getElem? (i := 177) rfl)) rfl
theorem wIM_X10_still : Cond.instanceMethod yX10_still ∈ okW := ok_of (tb_7 (List.mem_of_getElem? (i := 178) rfl)) rfl
theorem wSE_X10_still : Cond.selects yX10_still.cls yX10_still yX10_still ∈ okW := ok_of (tb_7 (List.mem_of_getElem? (i := 179) rfl)) rfl
theorem wCD_X10_still : Cond.code yX10_still cX10_still 4 (some .int) ∈ okW := ok_of (tb_7 (List.mem_of_getElem? (i := 180) rfl)) rfl
theorem wM_X10_408 : Cond.methodLink RX10 408 yX10_stills ∈ okW := ok_of (tb_7 (List.mem_of_getElem? (i := 181) rfl)) rfl
theorem wIM_X10_stills : Cond.instanceMethod yX10_stills ∈ okW := ok_of (tb_7 (List.mem_of_getElem? (i := 183) rfl)) rfl
theorem wCD_X10_stills : Cond.code yX10_stills cX10_stills 5 (some .int) ∈ okW := ok_of (tb_7 (List.mem_of_getElem? (i := 184) rfl)) rfl
theorem wM_X10_405 : Cond.methodLink RX10 405 yX10_isStill ∈ okW := ok_of (tb_7 (List.mem_of_getElem? (i := 185) rfl)) rfl
theorem wIM_X10_isStill : Cond.instanceMethod yX10_isStill ∈ okW := ok_of (tb_7 (List.mem_of_getElem? (i := 187) rfl)) rfl
theorem wCD_X10_isStill : Cond.code yX10_isStill cX10_isStill 4 (some .boolean) ∈ okW := ok_of (tb_7 (List.mem_of_getElem? (i := 188) rfl)) rfl
theorem wM_X10_402 : Cond.methodLink RX10 402 yX10_sways ∈ okW := ok_of (tb_7 (List.mem_of_getElem? (i := 189) rfl)) rfl
theorem wIM_X10_sways : Cond.instanceMethod yX10_sways ∈ okW := ok_of (tb_7 (List.mem_of_getElem? (i := 191) rfl)) rfl
theorem wCD_X10_sways : Cond.code yX10_sways cX10_sways 4 (some .boolean) ∈ okW := ok_of (tb_7 (List.mem_of_getElem? (i := 192) rfl)) rfl
theorem wM_X10_411 : Cond.methodLink RX10 411 yX10_stillAt ∈ okW := ok_of (tb_7 (List.mem_of_getElem? (i := 193) rfl)) rfl
theorem wIM_X10_stillAt : Cond.instanceMethod yX10_stillAt ∈ okW := ok_of (tb_7 (List.mem_of_getElem? (i := 195) rfl)) rfl
theorem wCD_X10_stillAt : Cond.code yX10_stillAt cX10_stillAt 6 (some .int) ∈ okW := ok_of (tb_7 (List.mem_of_getElem? (i := 196) rfl)) rfl
theorem wM_L_116 : Cond.methodLink RL 116 yX10_holes ∈ okW := ok_of (tb_7 (List.mem_of_getElem? (i := 197) rfl)) rfl
theorem wIM_X10_holes : Cond.instanceMethod yX10_holes ∈ okW := ok_of (tb_7 (List.mem_of_getElem? (i := 198) rfl)) rfl
theorem wSE_X10_holes : Cond.selects yX10_holes.cls yX10_holes yX10_holes ∈ okW := ok_of (tb_7 (List.mem_of_getElem? (i := 199) rfl)) rfl
theorem wCD_X10_holes : Cond.code yX10_holes cX10_holes 4 (some .boolean) ∈ okW := ok_of (tb_7 (List.mem_of_getElem? (i := 200) rfl)) rfl
theorem wM_L_83 : Cond.methodLink RL 83 yX10_state ∈ okW := ok_of (tb_7 (List.mem_of_getElem? (i := 201) rfl)) rfl
theorem wIM_X10_state : Cond.instanceMethod yX10_state ∈ okW := ok_of (tb_7 (List.mem_of_getElem? (i := 202) rfl)) rfl
theorem wSE_X10_state : Cond.selects yX10_state.cls yX10_state yX10_state ∈ okW := ok_of (tb_7 (List.mem_of_getElem? (i := 203) rfl)) rfl
theorem wCD_X10_state : Cond.code yX10_state cX10_state 3 (some .int) ∈ okW := ok_of (tb_7 (List.mem_of_getElem? (i := 204) rfl)) rfl
theorem wM_X10_414 : Cond.methodLink RX10 414 yX10_isTrue ∈ okW := ok_of (tb_7 (List.mem_of_getElem? (i := 205) rfl)) rfl
theorem wIM_X10_isTrue : Cond.instanceMethod yX10_isTrue ∈ okW := ok_of (tb_7 (List.mem_of_getElem? (i := 207) rfl)) rfl
theorem wCD_X10_isTrue : Cond.code yX10_isTrue cX10_isTrue 3 (some .boolean) ∈ okW := ok_of (tb_7 (List.mem_of_getElem? (i := 208) rfl)) rfl
theorem wM_X10_417 : Cond.methodLink RX10 417 yX10_amiss ∈ okW := ok_of (tb_7 (List.mem_of_getElem? (i := 209) rfl)) rfl
theorem wIM_X10_amiss : Cond.instanceMethod yX10_amiss ∈ okW := ok_of (tb_7 (List.mem_of_getElem? (i := 211) rfl)) rfl
theorem wCD_X10_amiss : Cond.code yX10_amiss cX10_amiss 3 (some .int) ∈ okW := ok_of (tb_7 (List.mem_of_getElem? (i := 212) rfl)) rfl
theorem wM_L_120 : Cond.methodLink RL 120 yX10_tube ∈ okW := ok_of (tb_7 (List.mem_of_getElem? (i := 213) rfl)) rfl
theorem wIM_X10_tube : Cond.instanceMethod yX10_tube ∈ okW := ok_of (tb_7 (List.mem_of_getElem? (i := 214) rfl)) rfl
theorem wSE_X10_tube : Cond.selects yX10_tube.cls yX10_tube yX10_tube ∈ okW := ok_of (tb_7 (List.mem_of_getElem? (i := 215) rfl)) rfl
theorem wCD_X10_tube : Cond.code yX10_tube cX10_tube 4 (some .boolean) ∈ okW := ok_of (tb_7 (List.mem_of_getElem? (i := 216) rfl)) rfl
theorem wM_L_124 : Cond.methodLink RL 124 yX10_in ∈ okW := ok_of (tb_7 (List.mem_of_getElem? (i := 217) rfl)) rfl
theorem wIM_X10_in : Cond.instanceMethod yX10_in ∈ okW := ok_of (tb_7 (List.mem_of_getElem? (i := 218) rfl)) rfl
theorem wSE_X10_in : Cond.selects yX10_in.cls yX10_in yX10_in ∈ okW := ok_of (tb_7 (List.mem_of_getElem? (i := 219) rfl)) rfl
theorem wCD_X10_in : Cond.code yX10_in cX10_in 8 (some .int) ∈ okW := ok_of (tb_7 (List.mem_of_getElem? (i := 220) rfl)) rfl
theorem wM_X10_428 : Cond.methodLink RX10 428 yX10_isHeat ∈ okW := ok_of (tb_7 (List.mem_of_getElem? (i := 221) rfl)) rfl
theorem wIM_X10_isHeat : Cond.instanceMethod yX10_isHeat ∈ okW := ok_of (tb_7 (List.mem_of_getElem? (i := 223) rfl)) rfl
theorem wCD_X10_isHeat : Cond.code yX10_isHeat cX10_isHeat 2 (some .boolean) ∈ okW := ok_of (tb_7 (List.mem_of_getElem? (i := 224) rfl)) rfl
theorem wM_X10_431 : Cond.methodLink RX10 431 yX10_isWet ∈ okW := ok_of (tb_7 (List.mem_of_getElem? (i := 225) rfl)) rfl
theorem wIM_X10_isWet : Cond.instanceMethod yX10_isWet ∈ okW := ok_of (tb_7 (List.mem_of_getElem? (i := 227) rfl)) rfl
theorem wCD_X10_isWet : Cond.code yX10_isWet cX10_isWet 2 (some .boolean) ∈ okW := ok_of (tb_7 (List.mem_of_getElem? (i := 228) rfl)) rfl
theorem wM_X10_434 : Cond.methodLink RX10 434 yX10_beatOf ∈ okW := ok_of (tb_7 (List.mem_of_getElem? (i := 229) rfl)) rfl
theorem wIM_X10_beatOf : Cond.instanceMethod yX10_beatOf ∈ okW := ok_of (tb_7 (List.mem_of_getElem? (i := 231) rfl)) rfl
theorem wCD_X10_beatOf : Cond.code yX10_beatOf cX10_beatOf 5 (some .int) ∈ okW := ok_of (tb_7 (List.mem_of_getElem? (i := 232) rfl)) rfl
theorem wM_X10_422 : Cond.methodLink RX10 422 yX10_sounds ∈ okW := ok_of (tb_7 (List.mem_of_getElem? (i := 233) rfl)) rfl
theorem wIM_X10_sounds : Cond.instanceMethod yX10_sounds ∈ okW := ok_of (tb_7 (List.mem_of_getElem? (i := 235) rfl)) rfl
theorem wCD_X10_sounds : Cond.code yX10_sounds cX10_sounds 3 (some .int) ∈ okW := ok_of (tb_7 (List.mem_of_getElem? (i := 236) rfl)) rfl
theorem wM_X10_425 : Cond.methodLink RX10 425 yX10_drifted ∈ okW := ok_of (tb_7 (List.mem_of_getElem? (i := 237) rfl)) rfl
theorem wIM_X10_drifted : Cond.instanceMethod yX10_drifted ∈ okW := ok_of (tb_7 (List.mem_of_getElem? (i := 239) rfl)) rfl
theorem wCD_X10_drifted : Cond.code yX10_drifted cX10_drifted 8 (some .int) ∈ okW := ok_of (tb_8 (List.mem_of_getElem? (i := 0) rfl)) rfl
theorem wK_X10_420 : Cond.constantLong RX10 420 (10000) ∈ okW := ok_of (tb_8 (List.mem_of_getElem? (i := 1) rfl)) rfl
theorem wM_L_128 : Cond.methodLink RL 128 yX10_night ∈ okW := ok_of (tb_8 (List.mem_of_getElem? (i := 2) rfl)) rfl
theorem wIM_X10_night : Cond.instanceMethod yX10_night ∈ okW := ok_of (tb_8 (List.mem_of_getElem? (i := 3) rfl)) rfl
theorem wSE_X10_night : Cond.selects yX10_night.cls yX10_night yX10_night ∈ okW := ok_of (tb_8 (List.mem_of_getElem? (i := 4) rfl)) rfl
theorem wCD_X10_night : Cond.code yX10_night cX10_night 3 (some .int) ∈ okW := ok_of (tb_8 (List.mem_of_getElem? (i := 5) rfl)) rfl
theorem wM_L_132 : Cond.methodLink RL 132 yX10_nights ∈ okW := ok_of (tb_8 (List.mem_of_getElem? (i := 6) rfl)) rfl
theorem wIM_X10_nights : Cond.instanceMethod yX10_nights ∈ okW := ok_of (tb_8 (List.mem_of_getElem? (i := 7) rfl)) rfl
theorem wSE_X10_nights : Cond.selects yX10_nights.cls yX10_nights yX10_nights ∈ okW := ok_of (tb_8 (List.mem_of_getElem? (i := 8) rfl)) rfl
theorem wCD_X10_nights : Cond.code yX10_nights cX10_nights 5 (some .int) ∈ okW := ok_of (tb_8 (List.mem_of_getElem? (i := 9) rfl)) rfl
theorem wM_X10_449 : Cond.methodLink RX10 449 yX10_suits ∈ okW := ok_of (tb_8 (List.mem_of_getElem? (i := 10) rfl)) rfl
theorem wIM_X10_suits : Cond.instanceMethod yX10_suits ∈ okW := ok_of (tb_8 (List.mem_of_getElem? (i := 12) rfl)) rfl
theorem wCD_X10_suits : Cond.code yX10_suits cX10_suits 2 (some .int) ∈ okW := ok_of (tb_8 (List.mem_of_getElem? (i := 13) rfl)) rfl
theorem wM_X10_444 : Cond.methodLink RX10 444 yX10_worstBeat ∈ okW := ok_of (tb_8 (List.mem_of_getElem? (i := 14) rfl)) rfl
theorem wIM_X10_worstBeat : Cond.instanceMethod yX10_worstBeat ∈ okW := ok_of (tb_8 (List.mem_of_getElem? (i := 16) rfl)) rfl
theorem wCD_X10_worstBeat : Cond.code yX10_worstBeat cX10_worstBeat 4 (some .int) ∈ okW := ok_of (tb_8 (List.mem_of_getElem? (i := 17) rfl)) rfl
theorem wM_X10_441 : Cond.methodLink RX10 441 yX10_worstOf ∈ okW := ok_of (tb_8 (List.mem_of_getElem? (i := 18) rfl)) rfl
theorem wIM_X10_worstOf : Cond.instanceMethod yX10_worstOf ∈ okW := ok_of (tb_8 (List.mem_of_getElem? (i := 20) rfl)) rfl
theorem wCD_X10_worstOf : Cond.code yX10_worstOf cX10_worstOf 7 (some .int) ∈ okW := ok_of (tb_8 (List.mem_of_getElem? (i := 21) rfl)) rfl
theorem wM_X10_452 : Cond.methodLink RX10 452 yX10_together ∈ okW := ok_of (tb_8 (List.mem_of_getElem? (i := 22) rfl)) rfl
theorem wIM_X10_together : Cond.instanceMethod yX10_together ∈ okW := ok_of (tb_8 (List.mem_of_getElem? (i := 24) rfl)) rfl
theorem wCD_X10_together : Cond.code yX10_together cX10_together 8 (some .int) ∈ okW := ok_of (tb_8 (List.mem_of_getElem? (i := 25) rfl)) rfl
theorem wK_X10_447 : Cond.constantLong RX10 447 (1000) ∈ okW := ok_of (tb_8 (List.mem_of_getElem? (i := 26) rfl)) rfl
theorem wM_L_136 : Cond.methodLink RL 136 yX10_note ∈ okW := ok_of (tb_8 (List.mem_of_getElem? (i := 27) rfl)) rfl
theorem wIM_X10_note : Cond.instanceMethod yX10_note ∈ okW := ok_of (tb_8 (List.mem_of_getElem? (i := 28) rfl)) rfl
theorem wSE_X10_note : Cond.selects yX10_note.cls yX10_note yX10_note ∈ okW := ok_of (tb_8 (List.mem_of_getElem? (i := 29) rfl)) rfl
theorem wCD_X10_note : Cond.code yX10_note cX10_note 3 (some .int) ∈ okW := ok_of (tb_8 (List.mem_of_getElem? (i := 30) rfl)) rfl
theorem wM_L_140 : Cond.methodLink RL 140 yX10_blank ∈ okW := ok_of (tb_8 (List.mem_of_getElem? (i := 31) rfl)) rfl
theorem wIM_X10_blank : Cond.instanceMethod yX10_blank ∈ okW := ok_of (tb_8 (List.mem_of_getElem? (i := 32) rfl)) rfl
theorem wSE_X10_blank : Cond.selects yX10_blank.cls yX10_blank yX10_blank ∈ okW := ok_of (tb_8 (List.mem_of_getElem? (i := 33) rfl)) rfl
theorem wCD_X10_blank : Cond.code yX10_blank cX10_blank 3 (some .int) ∈ okW := ok_of (tb_8 (List.mem_of_getElem? (i := 34) rfl)) rfl
theorem wM_L_144 : Cond.methodLink RL 144 yX10_set ∈ okW := ok_of (tb_8 (List.mem_of_getElem? (i := 35) rfl)) rfl
theorem wIM_X10_set : Cond.instanceMethod yX10_set ∈ okW := ok_of (tb_8 (List.mem_of_getElem? (i := 36) rfl)) rfl
theorem wSE_X10_set : Cond.selects yX10_set.cls yX10_set yX10_set ∈ okW := ok_of (tb_8 (List.mem_of_getElem? (i := 37) rfl)) rfl
theorem wCD_X10_set : Cond.code yX10_set cX10_set 4 (some .int) ∈ okW := ok_of (tb_8 (List.mem_of_getElem? (i := 38) rfl)) rfl
theorem wM_X10_464 : Cond.methodLink RX10 464 yX10_leastWaste ∈ okW := ok_of (tb_8 (List.mem_of_getElem? (i := 39) rfl)) rfl
theorem wIM_X10_leastWaste : Cond.instanceMethod yX10_leastWaste ∈ okW := ok_of (tb_8 (List.mem_of_getElem? (i := 41) rfl)) rfl
theorem wCD_X10_leastWaste : Cond.code yX10_leastWaste cX10_leastWaste 6 (some .int) ∈ okW := ok_of (tb_8 (List.mem_of_getElem? (i := 42) rfl)) rfl
theorem wM_X10_461 : Cond.methodLink RX10 461 yX10_canHave ∈ okW := ok_of (tb_8 (List.mem_of_getElem? (i := 43) rfl)) rfl
theorem wIM_X10_canHave : Cond.instanceMethod yX10_canHave ∈ okW := ok_of (tb_8 (List.mem_of_getElem? (i := 45) rfl)) rfl
theorem wCD_X10_canHave : Cond.code yX10_canHave cX10_canHave 5 (some .boolean) ∈ okW := ok_of (tb_8 (List.mem_of_getElem? (i := 46) rfl)) rfl
theorem wM_L_148 : Cond.methodLink RL 148 yX10_down ∈ okW := ok_of (tb_8 (List.mem_of_getElem? (i := 47) rfl)) rfl
theorem wIM_X10_down : Cond.instanceMethod yX10_down ∈ okW := ok_of (tb_8 (List.mem_of_getElem? (i := 48) rfl)) rfl
theorem wSE_X10_down : Cond.selects yX10_down.cls yX10_down yX10_down ∈ okW := ok_of (tb_8 (List.mem_of_getElem? (i := 49) rfl)) rfl
theorem wCD_X10_down : Cond.code yX10_down cX10_down 5 (some .int) ∈ okW := ok_of (tb_8 (List.mem_of_getElem? (i := 50) rfl)) rfl
theorem wM_L_152 : Cond.methodLink RL 152 yX10_enough ∈ okW := ok_of (tb_8 (List.mem_of_getElem? (i := 51) rfl)) rfl
theorem wIM_X10_enough : Cond.instanceMethod yX10_enough ∈ okW := ok_of (tb_8 (List.mem_of_getElem? (i := 52) rfl)) rfl
theorem wSE_X10_enough : Cond.selects yX10_enough.cls yX10_enough yX10_enough ∈ okW := ok_of (tb_8 (List.mem_of_getElem? (i := 53) rfl)) rfl
theorem wCD_X10_enough : Cond.code yX10_enough cX10_enough 7 (some .int) ∈ okW := ok_of (tb_8 (List.mem_of_getElem? (i := 54) rfl)) rfl
theorem wM_L_157 : Cond.methodLink RL 157 yX10_image ∈ okW := ok_of (tb_8 (List.mem_of_getElem? (i := 55) rfl)) rfl
theorem wIM_X10_image : Cond.instanceMethod yX10_image ∈ okW := ok_of (tb_8 (List.mem_of_getElem? (i := 56) rfl)) rfl
theorem wSE_X10_image : Cond.selects yX10_image.cls yX10_image yX10_image ∈ okW := ok_of (tb_8 (List.mem_of_getElem? (i := 57) rfl)) rfl
theorem wCD_X10_image : Cond.code yX10_image cX10_image 2 (some .boolean) ∈ okW := ok_of (tb_8 (List.mem_of_getElem? (i := 58) rfl)) rfl
theorem wM_X10_473 : Cond.methodLink RX10 473 yX10_kept ∈ okW := ok_of (tb_8 (List.mem_of_getElem? (i := 59) rfl)) rfl
theorem wIM_X10_kept : Cond.instanceMethod yX10_kept ∈ okW := ok_of (tb_8 (List.mem_of_getElem? (i := 61) rfl)) rfl
theorem wCD_X10_kept : Cond.code yX10_kept cX10_kept 2 (some .int) ∈ okW := ok_of (tb_8 (List.mem_of_getElem? (i := 62) rfl)) rfl
theorem wM_X10_479 : Cond.methodLink RX10 479 yX10_keepsBars ∈ okW := ok_of (tb_8 (List.mem_of_getElem? (i := 63) rfl)) rfl
theorem wIM_X10_keepsBars : Cond.instanceMethod yX10_keepsBars ∈ okW := ok_of (tb_8 (List.mem_of_getElem? (i := 65) rfl)) rfl
theorem wCD_X10_keepsBars : Cond.code yX10_keepsBars cX10_keepsBars 2 none ∈ okW := ok_of (tb_8 (List.mem_of_getElem? (i := 66) rfl)) rfl
theorem wM_X10_482 : Cond.methodLink RX10 482 yX10_keepsTaps ∈ okW := ok_of (tb_8 (List.mem_of_getElem? (i := 67) rfl)) rfl
theorem wIM_X10_keepsTaps : Cond.instanceMethod yX10_keepsTaps ∈ okW := ok_of (tb_8 (List.mem_of_getElem? (i := 69) rfl)) rfl
theorem wCD_X10_keepsTaps : Cond.code yX10_keepsTaps cX10_keepsTaps 2 none ∈ okW := ok_of (tb_8 (List.mem_of_getElem? (i := 70) rfl)) rfl
theorem wM_X10_485 : Cond.methodLink RX10 485 yX10_keepsTexts ∈ okW := ok_of (tb_8 (List.mem_of_getElem? (i := 71) rfl)) rfl
theorem wIM_X10_keepsTexts : Cond.instanceMethod yX10_keepsTexts ∈ okW := ok_of (tb_8 (List.mem_of_getElem? (i := 73) rfl)) rfl
theorem wCD_X10_keepsTexts : Cond.code yX10_keepsTexts cX10_keepsTexts 2 none ∈ okW := ok_of (tb_8 (List.mem_of_getElem? (i := 74) rfl)) rfl
theorem wM_L_161 : Cond.methodLink RL 161 yX10_look ∈ okW := ok_of (tb_8 (List.mem_of_getElem? (i := 75) rfl)) rfl
theorem wIM_X10_look : Cond.instanceMethod yX10_look ∈ okW := ok_of (tb_8 (List.mem_of_getElem? (i := 76) rfl)) rfl
theorem wSE_X10_look : Cond.selects yX10_look.cls yX10_look yX10_look ∈ okW := ok_of (tb_8 (List.mem_of_getElem? (i := 77) rfl)) rfl
theorem wCD_X10_look : Cond.code yX10_look cX10_look 2 (some .int) ∈ okW := ok_of (tb_8 (List.mem_of_getElem? (i := 78) rfl)) rfl
theorem wM_X10_488 : Cond.methodLink RX10 488 yX10_barsThat ∈ okW := ok_of (tb_8 (List.mem_of_getElem? (i := 79) rfl)) rfl
theorem wIM_X10_barsThat : Cond.instanceMethod yX10_barsThat ∈ okW := ok_of (tb_8 (List.mem_of_getElem? (i := 81) rfl)) rfl
theorem wCD_X10_barsThat : Cond.code yX10_barsThat cX10_barsThat 4 (some .int) ∈ okW := ok_of (tb_8 (List.mem_of_getElem? (i := 82) rfl)) rfl
theorem wSE_X9_barAt : Cond.selects yX9_barAt.cls yX9_barAt yX9_barAt ∈ okW := ok_of (tp_1 (q := (yX9_barAt, 12)) (List.mem_of_getElem? (i := 0) rfl)) rfl
theorem wSE_X9_addBytes : Cond.selects yX9_addBytes.cls yX9_addBytes yX9_addBytes ∈ okW := ok_of (tp_1 (q := (yX9_addBytes, 12)) (List.mem_of_getElem? (i := 1) rfl)) rfl
theorem wSE_X9_textAt : Cond.selects yX9_textAt.cls yX9_textAt yX9_textAt ∈ okW := ok_of (tp_1 (q := (yX9_textAt, 12)) (List.mem_of_getElem? (i := 2) rfl)) rfl
theorem wSE_X4_addToken : Cond.selects yX4_addToken.cls yX4_addToken yX4_addToken ∈ okW := ok_of (tp_1 (q := (yX4_addToken, 9)) (List.mem_of_getElem? (i := 3) rfl)) rfl
theorem wSE_X4_refuse : Cond.selects yX4_refuse.cls yX4_refuse yX4_refuse ∈ okW := ok_of (tp_1 (q := (yX4_refuse, 9)) (List.mem_of_getElem? (i := 4) rfl)) rfl
theorem wSE_X4_lawHead : Cond.selects yX4_lawHead.cls yX4_lawHead yX4_lawHead ∈ okW := ok_of (tp_1 (q := (yX4_lawHead, 9)) (List.mem_of_getElem? (i := 5) rfl)) rfl
theorem wSE_X4_number : Cond.selects yX4_number.cls yX4_number yX4_number ∈ okW := ok_of (tp_1 (q := (yX4_number, 9)) (List.mem_of_getElem? (i := 6) rfl)) rfl
theorem wSE_X4_sum : Cond.selects yX4_sum.cls yX4_sum yX4_sum ∈ okW := ok_of (tp_1 (q := (yX4_sum, 9)) (List.mem_of_getElem? (i := 7) rfl)) rfl
theorem wSE_X4_term : Cond.selects yX4_term.cls yX4_term yX4_term ∈ okW := ok_of (tp_1 (q := (yX4_term, 9)) (List.mem_of_getElem? (i := 8) rfl)) rfl
theorem wSE_X4_isUnit : Cond.selects yX4_isUnit.cls yX4_isUnit yX4_isUnit ∈ okW := ok_of (tp_1 (q := (yX4_isUnit, 9)) (List.mem_of_getElem? (i := 9) rfl)) rfl
theorem wSE_X4_jobHead : Cond.selects yX4_jobHead.cls yX4_jobHead yX4_jobHead ∈ okW := ok_of (tp_1 (q := (yX4_jobHead, 9)) (List.mem_of_getElem? (i := 10) rfl)) rfl
theorem wSE_X4_either : Cond.selects yX4_either.cls yX4_either yX4_either ∈ okW := ok_of (tp_1 (q := (yX4_either, 9)) (List.mem_of_getElem? (i := 11) rfl)) rfl
theorem wSE_X4_both : Cond.selects yX4_both.cls yX4_both yX4_both ∈ okW := ok_of (tp_1 (q := (yX4_both, 9)) (List.mem_of_getElem? (i := 12) rfl)) rfl
theorem wSE_X4_part : Cond.selects yX4_part.cls yX4_part yX4_part ∈ okW := ok_of (tp_1 (q := (yX4_part, 9)) (List.mem_of_getElem? (i := 13) rfl)) rfl
theorem wSE_X4_opened : Cond.selects yX4_opened.cls yX4_opened yX4_opened ∈ okW := ok_of (tp_1 (q := (yX4_opened, 9)) (List.mem_of_getElem? (i := 14) rfl)) rfl
theorem wSE_X9_toneNow : Cond.selects yX9_toneNow.cls yX9_toneNow yX9_toneNow ∈ okW := ok_of (tp_1 (q := (yX9_toneNow, 12)) (List.mem_of_getElem? (i := 15) rfl)) rfl
theorem wSE_X9_takeOff : Cond.selects yX9_takeOff.cls yX9_takeOff yX9_takeOff ∈ okW := ok_of (tp_2 (q := (yX9_takeOff, 12)) (List.mem_of_getElem? (i := 0) rfl)) rfl
theorem wSE_X9_isLost : Cond.selects yX9_isLost.cls yX9_isLost yX9_isLost ∈ okW := ok_of (tp_2 (q := (yX9_isLost, 12)) (List.mem_of_getElem? (i := 1) rfl)) rfl
theorem wSE_X9_isTrue : Cond.selects yX9_isTrue.cls yX9_isTrue yX9_isTrue ∈ okW := ok_of (tp_2 (q := (yX9_isTrue, 12)) (List.mem_of_getElem? (i := 2) rfl)) rfl
theorem wSE_X9_amiss : Cond.selects yX9_amiss.cls yX9_amiss yX9_amiss ∈ okW := ok_of (tp_2 (q := (yX9_amiss, 12)) (List.mem_of_getElem? (i := 3) rfl)) rfl
theorem wSE_X9_findPoints : Cond.selects yX9_findPoints.cls yX9_findPoints yX9_findPoints ∈ okW := ok_of (tp_2 (q := (yX9_findPoints, 12)) (List.mem_of_getElem? (i := 4) rfl)) rfl
theorem wSE_X9_comesTrue : Cond.selects yX9_comesTrue.cls yX9_comesTrue yX9_comesTrue ∈ okW := ok_of (tp_2 (q := (yX9_comesTrue, 12)) (List.mem_of_getElem? (i := 5) rfl)) rfl
theorem wSE_X9_doLine : Cond.selects yX9_doLine.cls yX9_doLine yX9_doLine ∈ okW := ok_of (tp_2 (q := (yX9_doLine, 12)) (List.mem_of_getElem? (i := 6) rfl)) rfl
theorem wSE_X3_fill : Cond.selects yX3_fill.cls yX3_fill yX3_fill ∈ okW := ok_of (tp_2 (q := (yX3_fill, 12)) (List.mem_of_getElem? (i := 7) rfl)) rfl
theorem wSE_X3_isTrueNow : Cond.selects yX3_isTrueNow.cls yX3_isTrueNow yX3_isTrueNow ∈ okW := ok_of (tp_2 (q := (yX3_isTrueNow, 12)) (List.mem_of_getElem? (i := 8) rfl)) rfl
theorem wSE_X3_isNear : Cond.selects yX3_isNear.cls yX3_isNear yX3_isNear ∈ okW := ok_of (tp_2 (q := (yX3_isNear, 12)) (List.mem_of_getElem? (i := 9) rfl)) rfl
theorem wSE_X3_goOn : Cond.selects yX3_goOn.cls yX3_goOn yX3_goOn ∈ okW := ok_of (tp_2 (q := (yX3_goOn, 12)) (List.mem_of_getElem? (i := 10) rfl)) rfl
theorem wSE_X3_isNearBehind : Cond.selects yX3_isNearBehind.cls yX3_isNearBehind yX3_isNearBehind ∈ okW := ok_of (tp_2 (q := (yX3_isNearBehind, 12)) (List.mem_of_getElem? (i := 11) rfl)) rfl
theorem wSE_X3_isReached : Cond.selects yX3_isReached.cls yX3_isReached yX3_isReached ∈ okW := ok_of (tp_2 (q := (yX3_isReached, 12)) (List.mem_of_getElem? (i := 12) rfl)) rfl
theorem wSE_X3_move : Cond.selects yX3_move.cls yX3_move yX3_move ∈ okW := ok_of (tp_2 (q := (yX3_move, 12)) (List.mem_of_getElem? (i := 13) rfl)) rfl
theorem wSE_X1_fill : Cond.selects yX1_fill.cls yX1_fill yX1_fill ∈ okW := ok_of (tp_2 (q := (yX1_fill, 8)) (List.mem_of_getElem? (i := 14) rfl)) rfl
theorem wSE_X1_unfold : Cond.selects yX1_unfold.cls yX1_unfold yX1_unfold ∈ okW := ok_of (tp_2 (q := (yX1_unfold, 8)) (List.mem_of_getElem? (i := 15) rfl)) rfl
theorem wSE_X1_isHeard : Cond.selects yX1_isHeard.cls yX1_isHeard yX1_isHeard ∈ okW := ok_of (tp_3 (q := (yX1_isHeard, 8)) (List.mem_of_getElem? (i := 0) rfl)) rfl
theorem wSE_X1_toneAt : Cond.selects yX1_toneAt.cls yX1_toneAt yX1_toneAt ∈ okW := ok_of (tp_3 (q := (yX1_toneAt, 8)) (List.mem_of_getElem? (i := 1) rfl)) rfl
theorem wSE_X1_countUnlike : Cond.selects yX1_countUnlike.cls yX1_countUnlike yX1_countUnlike ∈ okW := ok_of (tp_3 (q := (yX1_countUnlike, 8)) (List.mem_of_getElem? (i := 2) rfl)) rfl
theorem wSE_X9_offOf : Cond.selects yX9_offOf.cls yX9_offOf yX9_offOf ∈ okW := ok_of (tp_3 (q := (yX9_offOf, 12)) (List.mem_of_getElem? (i := 3) rfl)) rfl
theorem wSE_X9_driftIn : Cond.selects yX9_driftIn.cls yX9_driftIn yX9_driftIn ∈ okW := ok_of (tp_3 (q := (yX9_driftIn, 12)) (List.mem_of_getElem? (i := 4) rfl)) rfl
theorem wSE_X9_fillLowTones : Cond.selects yX9_fillLowTones.cls yX9_fillLowTones yX9_fillLowTones ∈ okW := ok_of (tp_3 (q := (yX9_fillLowTones, 12)) (List.mem_of_getElem? (i := 5) rfl)) rfl
theorem wSE_X9_apart : Cond.selects yX9_apart.cls yX9_apart yX9_apart ∈ okW := ok_of (tp_3 (q := (yX9_apart, 12)) (List.mem_of_getElem? (i := 6) rfl)) rfl
theorem wSE_X9_suiting : Cond.selects yX9_suiting.cls yX9_suiting yX9_suiting ∈ okW := ok_of (tp_3 (q := (yX9_suiting, 12)) (List.mem_of_getElem? (i := 7) rfl)) rfl
theorem wSE_X9_worst : Cond.selects yX9_worst.cls yX9_worst yX9_worst ∈ okW := ok_of (tp_3 (q := (yX9_worst, 12)) (List.mem_of_getElem? (i := 8) rfl)) rfl
theorem wSE_X9_beatIn : Cond.selects yX9_beatIn.cls yX9_beatIn yX9_beatIn ∈ okW := ok_of (tp_3 (q := (yX9_beatIn, 12)) (List.mem_of_getElem? (i := 9) rfl)) rfl
theorem wSE_X9_together : Cond.selects yX9_together.cls yX9_together yX9_together ∈ okW := ok_of (tp_3 (q := (yX9_together, 12)) (List.mem_of_getElem? (i := 10) rfl)) rfl
theorem wSE_X5_goOn : Cond.selects yX5_goOn.cls yX5_goOn yX5_goOn ∈ okW := ok_of (tp_3 (q := (yX5_goOn, 5)) (List.mem_of_getElem? (i := 11) rfl)) rfl
theorem wSE_X5_ringsTogether : Cond.selects yX5_ringsTogether.cls yX5_ringsTogether yX5_ringsTogether ∈ okW := ok_of (tp_3 (q := (yX5_ringsTogether, 5)) (List.mem_of_getElem? (i := 12) rfl)) rfl
theorem wSE_X9_countLost : Cond.selects yX9_countLost.cls yX9_countLost yX9_countLost ∈ okW := ok_of (tp_3 (q := (yX9_countLost, 12)) (List.mem_of_getElem? (i := 13) rfl)) rfl
theorem wSE_X9_countTrue : Cond.selects yX9_countTrue.cls yX9_countTrue yX9_countTrue ∈ okW := ok_of (tp_3 (q := (yX9_countTrue, 12)) (List.mem_of_getElem? (i := 14) rfl)) rfl
theorem wSE_X10_isIn : Cond.selects yX10_isIn.cls yX10_isIn yX10_isIn ∈ okW := ok_of (tp_3 (q := (yX10_isIn, 74)) (List.mem_of_getElem? (i := 15) rfl)) rfl
theorem wSE_X10_isSlice : Cond.selects yX10_isSlice.cls yX10_isSlice yX10_isSlice ∈ okW := ok_of (tp_4 (q := (yX10_isSlice, 74)) (List.mem_of_getElem? (i := 0) rfl)) rfl
theorem wSE_X10_isBar : Cond.selects yX10_isBar.cls yX10_isBar yX10_isBar ∈ okW := ok_of (tp_4 (q := (yX10_isBar, 74)) (List.mem_of_getElem? (i := 1) rfl)) rfl
theorem wSE_X10_puts : Cond.selects yX10_puts.cls yX10_puts yX10_puts ∈ okW := ok_of (tp_4 (q := (yX10_puts, 74)) (List.mem_of_getElem? (i := 2) rfl)) rfl
theorem wSE_X10_reads : Cond.selects yX10_reads.cls yX10_reads yX10_reads ∈ okW := ok_of (tp_4 (q := (yX10_reads, 74)) (List.mem_of_getElem? (i := 3) rfl)) rfl
theorem wSE_X10_raw : Cond.selects yX10_raw.cls yX10_raw yX10_raw ∈ okW := ok_of (tp_4 (q := (yX10_raw, 74)) (List.mem_of_getElem? (i := 4) rfl)) rfl
theorem wSE_X10_isLetter : Cond.selects yX10_isLetter.cls yX10_isLetter yX10_isLetter ∈ okW := ok_of (tp_4 (q := (yX10_isLetter, 74)) (List.mem_of_getElem? (i := 5) rfl)) rfl
theorem wSE_X10_wordAt : Cond.selects yX10_wordAt.cls yX10_wordAt yX10_wordAt ∈ okW := ok_of (tp_4 (q := (yX10_wordAt, 74)) (List.mem_of_getElem? (i := 6) rfl)) rfl
theorem wSE_X10_isDigit : Cond.selects yX10_isDigit.cls yX10_isDigit yX10_isDigit ∈ okW := ok_of (tp_4 (q := (yX10_isDigit, 74)) (List.mem_of_getElem? (i := 7) rfl)) rfl
theorem wSE_X10_isMarkSign : Cond.selects yX10_isMarkSign.cls yX10_isMarkSign yX10_isMarkSign ∈ okW := ok_of (tp_4 (q := (yX10_isMarkSign, 74)) (List.mem_of_getElem? (i := 8) rfl)) rfl
theorem wSE_X10_readText : Cond.selects yX10_readText.cls yX10_readText yX10_readText ∈ okW := ok_of (tp_4 (q := (yX10_readText, 74)) (List.mem_of_getElem? (i := 9) rfl)) rfl
theorem wSE_X10_isBegin : Cond.selects yX10_isBegin.cls yX10_isBegin yX10_isBegin ∈ okW := ok_of (tp_4 (q := (yX10_isBegin, 74)) (List.mem_of_getElem? (i := 10) rfl)) rfl
theorem wSE_X10_fails : Cond.selects yX10_fails.cls yX10_fails yX10_fails ∈ okW := ok_of (tp_4 (q := (yX10_fails, 74)) (List.mem_of_getElem? (i := 11) rfl)) rfl
theorem wSE_X10_readLine : Cond.selects yX10_readLine.cls yX10_readLine yX10_readLine ∈ okW := ok_of (tp_4 (q := (yX10_readLine, 74)) (List.mem_of_getElem? (i := 12) rfl)) rfl
theorem wSE_X10_readNumbers : Cond.selects yX10_readNumbers.cls yX10_readNumbers yX10_readNumbers ∈ okW := ok_of (tp_4 (q := (yX10_readNumbers, 74)) (List.mem_of_getElem? (i := 13) rfl)) rfl
theorem wSE_X10_readNumber : Cond.selects yX10_readNumber.cls yX10_readNumber yX10_readNumber ∈ okW := ok_of (tp_4 (q := (yX10_readNumber, 74)) (List.mem_of_getElem? (i := 14) rfl)) rfl
theorem wSE_X10_readSum : Cond.selects yX10_readSum.cls yX10_readSum yX10_readSum ∈ okW := ok_of (tp_4 (q := (yX10_readSum, 74)) (List.mem_of_getElem? (i := 15) rfl)) rfl
theorem wSE_X10_readProduct : Cond.selects yX10_readProduct.cls yX10_readProduct yX10_readProduct ∈ okW := ok_of (tp_5 (q := (yX10_readProduct, 74)) (List.mem_of_getElem? (i := 0) rfl)) rfl
theorem wSE_X10_readUnit : Cond.selects yX10_readUnit.cls yX10_readUnit yX10_readUnit ∈ okW := ok_of (tp_5 (q := (yX10_readUnit, 74)) (List.mem_of_getElem? (i := 1) rfl)) rfl
theorem wSE_X10_emits : Cond.selects yX10_emits.cls yX10_emits yX10_emits ∈ okW := ok_of (tp_5 (q := (yX10_emits, 74)) (List.mem_of_getElem? (i := 2) rfl)) rfl
theorem wSE_X10_isSign : Cond.selects yX10_isSign.cls yX10_isSign yX10_isSign ∈ okW := ok_of (tp_5 (q := (yX10_isSign, 74)) (List.mem_of_getElem? (i := 3) rfl)) rfl
theorem wSE_X10_isWord : Cond.selects yX10_isWord.cls yX10_isWord yX10_isWord ∈ okW := ok_of (tp_5 (q := (yX10_isWord, 74)) (List.mem_of_getElem? (i := 4) rfl)) rfl
theorem wSE_X10_readAny : Cond.selects yX10_readAny.cls yX10_readAny yX10_readAny ∈ okW := ok_of (tp_5 (q := (yX10_readAny, 74)) (List.mem_of_getElem? (i := 5) rfl)) rfl
theorem wSE_X10_waits : Cond.selects yX10_waits.cls yX10_waits yX10_waits ∈ okW := ok_of (tp_5 (q := (yX10_waits, 74)) (List.mem_of_getElem? (i := 6) rfl)) rfl
theorem wSE_X10_readCompared : Cond.selects yX10_readCompared.cls yX10_readCompared yX10_readCompared ∈ okW := ok_of (tp_5 (q := (yX10_readCompared, 74)) (List.mem_of_getElem? (i := 7) rfl)) rfl
theorem wSE_X10_settles : Cond.selects yX10_settles.cls yX10_settles yX10_settles ∈ okW := ok_of (tp_5 (q := (yX10_settles, 74)) (List.mem_of_getElem? (i := 8) rfl)) rfl
theorem wSE_X10_isLaw : Cond.selects yX10_isLaw.cls yX10_isLaw yX10_isLaw ∈ okW := ok_of (tp_5 (q := (yX10_isLaw, 74)) (List.mem_of_getElem? (i := 9) rfl)) rfl
theorem wSE_X10_isTone : Cond.selects yX10_isTone.cls yX10_isTone yX10_isTone ∈ okW := ok_of (tp_5 (q := (yX10_isTone, 74)) (List.mem_of_getElem? (i := 10) rfl)) rfl
theorem wSE_X10_asksSlice : Cond.selects yX10_asksSlice.cls yX10_asksSlice yX10_asksSlice ∈ okW := ok_of (tp_5 (q := (yX10_asksSlice, 74)) (List.mem_of_getElem? (i := 11) rfl)) rfl
theorem wSE_X10_asks : Cond.selects yX10_asks.cls yX10_asks yX10_asks ∈ okW := ok_of (tp_5 (q := (yX10_asks, 74)) (List.mem_of_getElem? (i := 12) rfl)) rfl
theorem wSE_X10_size : Cond.selects yX10_size.cls yX10_size yX10_size ∈ okW := ok_of (tp_5 (q := (yX10_size, 74)) (List.mem_of_getElem? (i := 13) rfl)) rfl
theorem wSE_X10_tellsBy : Cond.selects yX10_tellsBy.cls yX10_tellsBy yX10_tellsBy ∈ okW := ok_of (tp_5 (q := (yX10_tellsBy, 74)) (List.mem_of_getElem? (i := 14) rfl)) rfl
theorem wSE_X10_isSo : Cond.selects yX10_isSo.cls yX10_isSo yX10_isSo ∈ okW := ok_of (tp_5 (q := (yX10_isSo, 74)) (List.mem_of_getElem? (i := 15) rfl)) rfl
theorem wSE_X10_worth : Cond.selects yX10_worth.cls yX10_worth yX10_worth ∈ okW := ok_of (tp_6 (q := (yX10_worth, 74)) (List.mem_of_getElem? (i := 0) rfl)) rfl
theorem wSE_X10_twoOf : Cond.selects yX10_twoOf.cls yX10_twoOf yX10_twoOf ∈ okW := ok_of (tp_6 (q := (yX10_twoOf, 74)) (List.mem_of_getElem? (i := 1) rfl)) rfl
theorem wSE_X10_toneNow : Cond.selects yX10_toneNow.cls yX10_toneNow yX10_toneNow ∈ okW := ok_of (tp_6 (q := (yX10_toneNow, 74)) (List.mem_of_getElem? (i := 2) rfl)) rfl
theorem wSE_X10_toneBy : Cond.selects yX10_toneBy.cls yX10_toneBy yX10_toneBy ∈ okW := ok_of (tp_6 (q := (yX10_toneBy, 74)) (List.mem_of_getElem? (i := 3) rfl)) rfl
theorem wSE_X10_canPass : Cond.selects yX10_canPass.cls yX10_canPass yX10_canPass ∈ okW := ok_of (tp_6 (q := (yX10_canPass, 74)) (List.mem_of_getElem? (i := 4) rfl)) rfl
theorem wSE_X10_takesOff : Cond.selects yX10_takesOff.cls yX10_takesOff yX10_takesOff ∈ okW := ok_of (tp_6 (q := (yX10_takesOff, 74)) (List.mem_of_getElem? (i := 5) rfl)) rfl
theorem wSE_X10_isLost : Cond.selects yX10_isLost.cls yX10_isLost yX10_isLost ∈ okW := ok_of (tp_6 (q := (yX10_isLost, 74)) (List.mem_of_getElem? (i := 6) rfl)) rfl
theorem wSE_X10_asksJob : Cond.selects yX10_asksJob.cls yX10_asksJob yX10_asksJob ∈ okW := ok_of (tp_6 (q := (yX10_asksJob, 74)) (List.mem_of_getElem? (i := 7) rfl)) rfl
theorem wSE_X10_doesLine : Cond.selects yX10_doesLine.cls yX10_doesLine yX10_doesLine ∈ okW := ok_of (tp_6 (q := (yX10_doesLine, 74)) (List.mem_of_getElem? (i := 8) rfl)) rfl
theorem wSE_X10_findsFewest : Cond.selects yX10_findsFewest.cls yX10_findsFewest yX10_findsFewest ∈ okW := ok_of (tp_6 (q := (yX10_findsFewest, 74)) (List.mem_of_getElem? (i := 9) rfl)) rfl
theorem wSE_X10_findsTable : Cond.selects yX10_findsTable.cls yX10_findsTable yX10_findsTable ∈ okW := ok_of (tp_6 (q := (yX10_findsTable, 74)) (List.mem_of_getElem? (i := 10) rfl)) rfl
theorem wSE_X10_does : Cond.selects yX10_does.cls yX10_does yX10_does ∈ okW := ok_of (tp_6 (q := (yX10_does, 74)) (List.mem_of_getElem? (i := 11) rfl)) rfl
theorem wSE_X10_wouldBe : Cond.selects yX10_wouldBe.cls yX10_wouldBe yX10_wouldBe ∈ okW := ok_of (tp_6 (q := (yX10_wouldBe, 74)) (List.mem_of_getElem? (i := 12) rfl)) rfl
theorem wSE_X10_toneByTable : Cond.selects yX10_toneByTable.cls yX10_toneByTable yX10_toneByTable ∈ okW := ok_of (tp_6 (q := (yX10_toneByTable, 74)) (List.mem_of_getElem? (i := 13) rfl)) rfl
theorem wSE_X10_goesOn : Cond.selects yX10_goesOn.cls yX10_goesOn yX10_goesOn ∈ okW := ok_of (tp_6 (q := (yX10_goesOn, 74)) (List.mem_of_getElem? (i := 14) rfl)) rfl
theorem wSE_X10_findsFits : Cond.selects yX10_findsFits.cls yX10_findsFits yX10_findsFits ∈ okW := ok_of (tp_6 (q := (yX10_findsFits, 74)) (List.mem_of_getElem? (i := 15) rfl)) rfl
theorem wSE_X10_fitsAll : Cond.selects yX10_fitsAll.cls yX10_fitsAll yX10_fitsAll ∈ okW := ok_of (tp_7 (q := (yX10_fitsAll, 74)) (List.mem_of_getElem? (i := 0) rfl)) rfl
theorem wSE_X10_toneOf : Cond.selects yX10_toneOf.cls yX10_toneOf yX10_toneOf ∈ okW := ok_of (tp_7 (q := (yX10_toneOf, 74)) (List.mem_of_getElem? (i := 1) rfl)) rfl
theorem wSE_X10_nextPass : Cond.selects yX10_nextPass.cls yX10_nextPass yX10_nextPass ∈ okW := ok_of (tp_7 (q := (yX10_nextPass, 74)) (List.mem_of_getElem? (i := 2) rfl)) rfl
theorem wSE_X10_unlikeBy : Cond.selects yX10_unlikeBy.cls yX10_unlikeBy yX10_unlikeBy ∈ okW := ok_of (tp_7 (q := (yX10_unlikeBy, 74)) (List.mem_of_getElem? (i := 3) rfl)) rfl
theorem wSE_X10_sureOf : Cond.selects yX10_sureOf.cls yX10_sureOf yX10_sureOf ∈ okW := ok_of (tp_7 (q := (yX10_sureOf, 74)) (List.mem_of_getElem? (i := 4) rfl)) rfl
theorem wSE_X10_offOf : Cond.selects yX10_offOf.cls yX10_offOf yX10_offOf ∈ okW := ok_of (tp_7 (q := (yX10_offOf, 74)) (List.mem_of_getElem? (i := 5) rfl)) rfl
theorem wSE_X10_stills : Cond.selects yX10_stills.cls yX10_stills yX10_stills ∈ okW := ok_of (tp_7 (q := (yX10_stills, 74)) (List.mem_of_getElem? (i := 6) rfl)) rfl
theorem wSE_X10_isStill : Cond.selects yX10_isStill.cls yX10_isStill yX10_isStill ∈ okW := ok_of (tp_7 (q := (yX10_isStill, 74)) (List.mem_of_getElem? (i := 7) rfl)) rfl
theorem wSE_X10_sways : Cond.selects yX10_sways.cls yX10_sways yX10_sways ∈ okW := ok_of (tp_7 (q := (yX10_sways, 74)) (List.mem_of_getElem? (i := 8) rfl)) rfl
theorem wSE_X10_stillAt : Cond.selects yX10_stillAt.cls yX10_stillAt yX10_stillAt ∈ okW := ok_of (tp_7 (q := (yX10_stillAt, 74)) (List.mem_of_getElem? (i := 9) rfl)) rfl
theorem wSE_X10_isTrue : Cond.selects yX10_isTrue.cls yX10_isTrue yX10_isTrue ∈ okW := ok_of (tp_7 (q := (yX10_isTrue, 74)) (List.mem_of_getElem? (i := 10) rfl)) rfl
theorem wSE_X10_amiss : Cond.selects yX10_amiss.cls yX10_amiss yX10_amiss ∈ okW := ok_of (tp_7 (q := (yX10_amiss, 74)) (List.mem_of_getElem? (i := 11) rfl)) rfl
theorem wSE_X10_isHeat : Cond.selects yX10_isHeat.cls yX10_isHeat yX10_isHeat ∈ okW := ok_of (tp_7 (q := (yX10_isHeat, 74)) (List.mem_of_getElem? (i := 12) rfl)) rfl
theorem wSE_X10_isWet : Cond.selects yX10_isWet.cls yX10_isWet yX10_isWet ∈ okW := ok_of (tp_7 (q := (yX10_isWet, 74)) (List.mem_of_getElem? (i := 13) rfl)) rfl
theorem wSE_X10_beatOf : Cond.selects yX10_beatOf.cls yX10_beatOf yX10_beatOf ∈ okW := ok_of (tp_7 (q := (yX10_beatOf, 74)) (List.mem_of_getElem? (i := 14) rfl)) rfl
theorem wSE_X10_sounds : Cond.selects yX10_sounds.cls yX10_sounds yX10_sounds ∈ okW := ok_of (tp_7 (q := (yX10_sounds, 74)) (List.mem_of_getElem? (i := 15) rfl)) rfl
theorem wSE_X10_drifted : Cond.selects yX10_drifted.cls yX10_drifted yX10_drifted ∈ okW := ok_of (tp_8 (q := (yX10_drifted, 74)) (List.mem_of_getElem? (i := 0) rfl)) rfl
theorem wSE_X10_suits : Cond.selects yX10_suits.cls yX10_suits yX10_suits ∈ okW := ok_of (tp_8 (q := (yX10_suits, 74)) (List.mem_of_getElem? (i := 1) rfl)) rfl
theorem wSE_X10_worstBeat : Cond.selects yX10_worstBeat.cls yX10_worstBeat yX10_worstBeat ∈ okW := ok_of (tp_8 (q := (yX10_worstBeat, 74)) (List.mem_of_getElem? (i := 2) rfl)) rfl
theorem wSE_X10_worstOf : Cond.selects yX10_worstOf.cls yX10_worstOf yX10_worstOf ∈ okW := ok_of (tp_8 (q := (yX10_worstOf, 74)) (List.mem_of_getElem? (i := 3) rfl)) rfl
theorem wSE_X10_together : Cond.selects yX10_together.cls yX10_together yX10_together ∈ okW := ok_of (tp_8 (q := (yX10_together, 74)) (List.mem_of_getElem? (i := 4) rfl)) rfl
theorem wSE_X10_leastWaste : Cond.selects yX10_leastWaste.cls yX10_leastWaste yX10_leastWaste ∈ okW := ok_of (tp_8 (q := (yX10_leastWaste, 74)) (List.mem_of_getElem? (i := 5) rfl)) rfl
theorem wSE_X10_canHave : Cond.selects yX10_canHave.cls yX10_canHave yX10_canHave ∈ okW := ok_of (tp_8 (q := (yX10_canHave, 74)) (List.mem_of_getElem? (i := 6) rfl)) rfl
theorem wSE_X10_kept : Cond.selects yX10_kept.cls yX10_kept yX10_kept ∈ okW := ok_of (tp_8 (q := (yX10_kept, 74)) (List.mem_of_getElem? (i := 7) rfl)) rfl
theorem wSE_X10_keepsBars : Cond.selects yX10_keepsBars.cls yX10_keepsBars yX10_keepsBars ∈ okW := ok_of (tp_8 (q := (yX10_keepsBars, 74)) (List.mem_of_getElem? (i := 8) rfl)) rfl
theorem wSE_X10_keepsTaps : Cond.selects yX10_keepsTaps.cls yX10_keepsTaps yX10_keepsTaps ∈ okW := ok_of (tp_8 (q := (yX10_keepsTaps, 74)) (List.mem_of_getElem? (i := 9) rfl)) rfl
theorem wSE_X10_keepsTexts : Cond.selects yX10_keepsTexts.cls yX10_keepsTexts yX10_keepsTexts ∈ okW := ok_of (tp_8 (q := (yX10_keepsTexts, 74)) (List.mem_of_getElem? (i := 10) rfl)) rfl
theorem wSE_X10_barsThat : Cond.selects yX10_barsThat.cls yX10_barsThat yX10_barsThat ∈ okW := ok_of (tp_8 (q := (yX10_barsThat, 74)) (List.mem_of_getElem? (i := 11) rfl)) rfl
theorem lyX0 : ∀ k, k < 18 → u_lay RX0 TX0 k ∈ okW := fun k hk => match k, hk with
  | 0, _ => wLY_0_0
  | 1, _ => wLY_0_1
  | 2, _ => wLY_0_2
  | 3, _ => wLY_0_3
  | 4, _ => wLY_0_4
  | 5, _ => wLY_0_5
  | 6, _ => wLY_0_6
  | 7, _ => wLY_0_7
  | 8, _ => wLY_0_8
  | 9, _ => wLY_0_9
  | 10, _ => wLY_0_10
  | 11, _ => wLY_0_11
  | 12, _ => wLY_0_12
  | 13, _ => wLY_0_13
  | 14, _ => wLY_0_14
  | 15, _ => wLY_0_15
  | 16, _ => wLY_0_16
  | 17, _ => wLY_0_17
  | k + 18, h => absurd h (by omega)
theorem inX0 : ∀ w ∈ u_ws RX0 TX0 18, w ∈ okW := by
  intro w hw
  obtain ⟨k, hk, rfl⟩ := List.mem_map.mp hw
  exact lyX0 k (List.mem_range.mp hk)
theorem lyX1 : ∀ k, k < 8 → u_lay RX1 TX1 k ∈ okW := fun k hk => match k, hk with
  | 0, _ => wLY_1_0
  | 1, _ => wLY_1_1
  | 2, _ => wLY_1_2
  | 3, _ => wLY_1_3
  | 4, _ => wLY_1_4
  | 5, _ => wLY_1_5
  | 6, _ => wLY_1_6
  | 7, _ => wLY_1_7
  | k + 8, h => absurd h (by omega)
theorem inX1 : ∀ w ∈ u_ws RX1 TX1 8, w ∈ okW := by
  intro w hw
  obtain ⟨k, hk, rfl⟩ := List.mem_map.mp hw
  exact lyX1 k (List.mem_range.mp hk)
theorem lyX2 : ∀ k, k < 2 → u_lay RX2 TX2 k ∈ okW := fun k hk => match k, hk with
  | 0, _ => wLY_2_0
  | 1, _ => wLY_2_1
  | k + 2, h => absurd h (by omega)
theorem inX2 : ∀ w ∈ u_ws RX2 TX2 2, w ∈ okW := by
  intro w hw
  obtain ⟨k, hk, rfl⟩ := List.mem_map.mp hw
  exact lyX2 k (List.mem_range.mp hk)
theorem lyX3 : ∀ k, k < 12 → u_lay RX3 TX3 k ∈ okW := fun k hk => match k, hk with
  | 0, _ => wLY_3_0
  | 1, _ => wLY_3_1
  | 2, _ => wLY_3_2
  | 3, _ => wLY_3_3
  | 4, _ => wLY_3_4
  | 5, _ => wLY_3_5
  | 6, _ => wLY_3_6
  | 7, _ => wLY_3_7
  | 8, _ => wLY_3_8
  | 9, _ => wLY_3_9
  | 10, _ => wLY_3_10
  | 11, _ => wLY_3_11
  | k + 12, h => absurd h (by omega)
theorem inX3 : ∀ w ∈ u_ws RX3 TX3 12, w ∈ okW := by
  intro w hw
  obtain ⟨k, hk, rfl⟩ := List.mem_map.mp hw
  exact lyX3 k (List.mem_range.mp hk)
theorem lyX4 : ∀ k, k < 9 → u_lay RX4 TX4 k ∈ okW := fun k hk => match k, hk with
  | 0, _ => wLY_4_0
  | 1, _ => wLY_4_1
  | 2, _ => wLY_4_2
  | 3, _ => wLY_4_3
  | 4, _ => wLY_4_4
  | 5, _ => wLY_4_5
  | 6, _ => wLY_4_6
  | 7, _ => wLY_4_7
  | 8, _ => wLY_4_8
  | k + 9, h => absurd h (by omega)
theorem inX4 : ∀ w ∈ u_ws RX4 TX4 9, w ∈ okW := by
  intro w hw
  obtain ⟨k, hk, rfl⟩ := List.mem_map.mp hw
  exact lyX4 k (List.mem_range.mp hk)
theorem lyX5 : ∀ k, k < 5 → u_lay RX5 TX5 k ∈ okW := fun k hk => match k, hk with
  | 0, _ => wLY_5_0
  | 1, _ => wLY_5_1
  | 2, _ => wLY_5_2
  | 3, _ => wLY_5_3
  | 4, _ => wLY_5_4
  | k + 5, h => absurd h (by omega)
theorem inX5 : ∀ w ∈ u_ws RX5 TX5 5, w ∈ okW := by
  intro w hw
  obtain ⟨k, hk, rfl⟩ := List.mem_map.mp hw
  exact lyX5 k (List.mem_range.mp hk)
theorem lyX6 : ∀ k, k < 2 → u_lay RX6 TX6 k ∈ okW := fun k hk => match k, hk with
  | 0, _ => wLY_6_0
  | 1, _ => wLY_6_1
  | k + 2, h => absurd h (by omega)
theorem inX6 : ∀ w ∈ u_ws RX6 TX6 2, w ∈ okW := by
  intro w hw
  obtain ⟨k, hk, rfl⟩ := List.mem_map.mp hw
  exact lyX6 k (List.mem_range.mp hk)
theorem lyX7 : ∀ k, k < 10 → u_lay RX7 TX7 k ∈ okW := fun k hk => match k, hk with
  | 0, _ => wLY_7_0
  | 1, _ => wLY_7_1
  | 2, _ => wLY_7_2
  | 3, _ => wLY_7_3
  | 4, _ => wLY_7_4
  | 5, _ => wLY_7_5
  | 6, _ => wLY_7_6
  | 7, _ => wLY_7_7
  | 8, _ => wLY_7_8
  | 9, _ => wLY_7_9
  | k + 10, h => absurd h (by omega)
theorem inX7 : ∀ w ∈ u_ws RX7 TX7 10, w ∈ okW := by
  intro w hw
  obtain ⟨k, hk, rfl⟩ := List.mem_map.mp hw
  exact lyX7 k (List.mem_range.mp hk)
theorem lyX8 : ∀ k, k < 17 → u_lay RX8 TX8 k ∈ okW := fun k hk => match k, hk with
  | 0, _ => wLY_8_0
  | 1, _ => wLY_8_1
  | 2, _ => wLY_8_2
  | 3, _ => wLY_8_3
  | 4, _ => wLY_8_4
  | 5, _ => wLY_8_5
  | 6, _ => wLY_8_6
  | 7, _ => wLY_8_7
  | 8, _ => wLY_8_8
  | 9, _ => wLY_8_9
  | 10, _ => wLY_8_10
  | 11, _ => wLY_8_11
  | 12, _ => wLY_8_12
  | 13, _ => wLY_8_13
  | 14, _ => wLY_8_14
  | 15, _ => wLY_8_15
  | 16, _ => wLY_8_16
  | k + 17, h => absurd h (by omega)
theorem inX8 : ∀ w ∈ u_ws RX8 TX8 17, w ∈ okW := by
  intro w hw
  obtain ⟨k, hk, rfl⟩ := List.mem_map.mp hw
  exact lyX8 k (List.mem_range.mp hk)
theorem lyX9 : ∀ k, k < 12 → u_lay RX9 TX9 k ∈ okW := fun k hk => match k, hk with
  | 0, _ => wLY_9_0
  | 1, _ => wLY_9_1
  | 2, _ => wLY_9_2
  | 3, _ => wLY_9_3
  | 4, _ => wLY_9_4
  | 5, _ => wLY_9_5
  | 6, _ => wLY_9_6
  | 7, _ => wLY_9_7
  | 8, _ => wLY_9_8
  | 9, _ => wLY_9_9
  | 10, _ => wLY_9_10
  | 11, _ => wLY_9_11
  | k + 12, h => absurd h (by omega)
theorem inX9 : ∀ w ∈ u_ws RX9 TX9 12, w ∈ okW := by
  intro w hw
  obtain ⟨k, hk, rfl⟩ := List.mem_map.mp hw
  exact lyX9 k (List.mem_range.mp hk)
theorem lyX10 : ∀ k, k < 74 → u_lay RX10 TX10 k ∈ okW := fun k hk => match k, hk with
  | 0, _ => wLY_10_0
  | 1, _ => wLY_10_1
  | 2, _ => wLY_10_2
  | 3, _ => wLY_10_3
  | 4, _ => wLY_10_4
  | 5, _ => wLY_10_5
  | 6, _ => wLY_10_6
  | 7, _ => wLY_10_7
  | 8, _ => wLY_10_8
  | 9, _ => wLY_10_9
  | 10, _ => wLY_10_10
  | 11, _ => wLY_10_11
  | 12, _ => wLY_10_12
  | 13, _ => wLY_10_13
  | 14, _ => wLY_10_14
  | 15, _ => wLY_10_15
  | 16, _ => wLY_10_16
  | 17, _ => wLY_10_17
  | 18, _ => wLY_10_18
  | 19, _ => wLY_10_19
  | 20, _ => wLY_10_20
  | 21, _ => wLY_10_21
  | 22, _ => wLY_10_22
  | 23, _ => wLY_10_23
  | 24, _ => wLY_10_24
  | 25, _ => wLY_10_25
  | 26, _ => wLY_10_26
  | 27, _ => wLY_10_27
  | 28, _ => wLY_10_28
  | 29, _ => wLY_10_29
  | 30, _ => wLY_10_30
  | 31, _ => wLY_10_31
  | 32, _ => wLY_10_32
  | 33, _ => wLY_10_33
  | 34, _ => wLY_10_34
  | 35, _ => wLY_10_35
  | 36, _ => wLY_10_36
  | 37, _ => wLY_10_37
  | 38, _ => wLY_10_38
  | 39, _ => wLY_10_39
  | 40, _ => wLY_10_40
  | 41, _ => wLY_10_41
  | 42, _ => wLY_10_42
  | 43, _ => wLY_10_43
  | 44, _ => wLY_10_44
  | 45, _ => wLY_10_45
  | 46, _ => wLY_10_46
  | 47, _ => wLY_10_47
  | 48, _ => wLY_10_48
  | 49, _ => wLY_10_49
  | 50, _ => wLY_10_50
  | 51, _ => wLY_10_51
  | 52, _ => wLY_10_52
  | 53, _ => wLY_10_53
  | 54, _ => wLY_10_54
  | 55, _ => wLY_10_55
  | 56, _ => wLY_10_56
  | 57, _ => wLY_10_57
  | 58, _ => wLY_10_58
  | 59, _ => wLY_10_59
  | 60, _ => wLY_10_60
  | 61, _ => wLY_10_61
  | 62, _ => wLY_10_62
  | 63, _ => wLY_10_63
  | 64, _ => wLY_10_64
  | 65, _ => wLY_10_65
  | 66, _ => wLY_10_66
  | 67, _ => wLY_10_67
  | 68, _ => wLY_10_68
  | 69, _ => wLY_10_69
  | 70, _ => wLY_10_70
  | 71, _ => wLY_10_71
  | 72, _ => wLY_10_72
  | 73, _ => wLY_10_73
  | k + 74, h => absurd h (by omega)
theorem inX10 : ∀ w ∈ u_ws RX10 TX10 74, w ∈ okW := by
  intro w hw
  obtain ⟨k, hk, rfl⟩ := List.mem_map.mp hw
  exact lyX10 k (List.mem_range.mp hk)
end
section
theorem yo_X9_init : YI yX9_init cX9_init 1 0 := ⟨wIM_X9_init, wIN_X9, wCD_X9_init, by decide +kernel, by decide +kernel, by decide +kernel⟩
theorem yo_X8_init : YI yX8_init cX8_init 2 0 := ⟨wIM_X8_init, wIN_X8, wCD_X8_init, by decide +kernel, by decide +kernel, by decide +kernel⟩
theorem yo_X0_init : YI yX0_init cX0_init 1 0 := ⟨wIM_X0_init, wIN_X0, wCD_X0_init, by decide +kernel, by decide +kernel, by decide +kernel⟩
theorem yo_X7_init : YI yX7_init cX7_init 1 0 := ⟨wIM_X7_init, wIN_X7, wCD_X7_init, by decide +kernel, by decide +kernel, by decide +kernel⟩
theorem yo_X4_init : YI yX4_init cX4_init 1 0 := ⟨wIM_X4_init, wIN_X4, wCD_X4_init, by decide +kernel, by decide +kernel, by decide +kernel⟩
theorem yo_X6_init : YI yX6_init cX6_init 1 0 := ⟨wIM_X6_init, wIN_X6, wCD_X6_init, by decide +kernel, by decide +kernel, by decide +kernel⟩
theorem yo_X3_init : YI yX3_init cX3_init 1 0 := ⟨wIM_X3_init, wIN_X3, wCD_X3_init, by decide +kernel, by decide +kernel, by decide +kernel⟩
theorem yo_X2_init : YI yX2_init cX2_init 1 0 := ⟨wIM_X2_init, wIN_X2, wCD_X2_init, by decide +kernel, by decide +kernel, by decide +kernel⟩
theorem yo_X1_init : YI yX1_init cX1_init 1 0 := ⟨wIM_X1_init, wIN_X1, wCD_X1_init, by decide +kernel, by decide +kernel, by decide +kernel⟩
theorem yo_X5_init : YI yX5_init cX5_init 1 0 := ⟨wIM_X5_init, wIN_X5, wCD_X5_init, by decide +kernel, by decide +kernel, by decide +kernel⟩
theorem yo_X9_bar : YV yX9_bar cX9_bar 2 (some .int) 1 := ⟨wIM_X9_bar, wSE_X9_bar, wIN_X9, wCD_X9_bar, by decide +kernel, by decide +kernel, by decide +kernel⟩
theorem yo_X0_begin : YV yX0_begin cX0_begin 2 none 1 := ⟨wIM_X0_begin, wSE_X0_begin, wIN_X0, wCD_X0_begin, by decide +kernel, by decide +kernel, by decide +kernel⟩
theorem yo_J7_fill_53178 : YS yJ7_fill_53178 cJ7_fill_53178 4 none 2 := ⟨wST_J7_fill_53178, wIN_J7, wCD_J7_fill_53178, by decide +kernel, by decide +kernel, by decide +kernel⟩
theorem yo_X9_slice : YV yX9_slice cX9_slice 7 (some .boolean) 5 := ⟨wIM_X9_slice, wSE_X9_slice, wIN_X9, wCD_X9_slice, by decide +kernel, by decide +kernel, by decide +kernel⟩
theorem yo_X9_barAt : YV yX9_barAt cX9_barAt 2 (some (.object "RingBars$Bar")) 1 := ⟨wIM_X9_barAt, wSE_X9_barAt, wIN_X9, wCD_X9_barAt, by decide +kernel, by decide +kernel, by decide +kernel⟩
theorem yo_X9_within : YS yX9_within cX9_within 3 (some .boolean) 3 := ⟨wST_X9_within, wIN_X9, wCD_X9_within, by decide +kernel, by decide +kernel, by decide +kernel⟩
theorem yo_X0_has : YV yX0_has cX0_has 2 (some .boolean) 1 := ⟨wIM_X0_has, wSE_X0_has, wIN_X0, wCD_X0_has, by decide +kernel, by decide +kernel, by decide +kernel⟩
theorem yo_X9_wax : YV yX9_wax cX9_wax 5 (some .boolean) 3 := ⟨wIM_X9_wax, wSE_X9_wax, wIN_X9, wCD_X9_wax, by decide +kernel, by decide +kernel, by decide +kernel⟩
theorem yo_X9_of : YV yX9_of cX9_of 5 (some .int) 3 := ⟨wIM_X9_of, wSE_X9_of, wIN_X9, wCD_X9_of, by decide +kernel, by decide +kernel, by decide +kernel⟩
theorem yo_X9_feed : YV yX9_feed cX9_feed 6 (some .int) 5 := ⟨wIM_X9_feed, wSE_X9_feed, wIN_X9, wCD_X9_feed, by decide +kernel, by decide +kernel, by decide +kernel⟩
theorem yo_X9_addBytes : YV yX9_addBytes cX9_addBytes 3 none 1 := ⟨wIM_X9_addBytes, wSE_X9_addBytes, wIN_X9, wCD_X9_addBytes, by decide +kernel, by decide +kernel, by decide +kernel⟩
theorem yo_X9_end : YV yX9_end cX9_end 2 (some .boolean) 1 := ⟨wIM_X9_end, wSE_X9_end, wIN_X9, wCD_X9_end, by decide +kernel, by decide +kernel, by decide +kernel⟩
theorem yo_X9_text : YV yX9_text cX9_text 6 (some .int) 2 := ⟨wIM_X9_text, wSE_X9_text, wIN_X9, wCD_X9_text, by decide +kernel, by decide +kernel, by decide +kernel⟩
theorem yo_X9_textAt : YV yX9_textAt cX9_textAt 3 (some (.object "RingBars$Text")) 2 := ⟨wIM_X9_textAt, wSE_X9_textAt, wIN_X9, wCD_X9_textAt, by decide +kernel, by decide +kernel, by decide +kernel⟩
theorem yo_X4_start : YV yX4_start cX4_start 7 none 3 := ⟨wIM_X4_start, wSE_X4_start, wIN_X4, wCD_X4_start, by decide +kernel, by decide +kernel, by decide +kernel⟩
theorem yo_X7_clear : YV yX7_clear cX7_clear 1 none 0 := ⟨wIM_X7_clear, wSE_X7_clear, wIN_X7, wCD_X7_clear, by decide +kernel, by decide +kernel, by decide +kernel⟩
theorem yo_X4_isLetter : YS yX4_isLetter cX4_isLetter 1 (some .boolean) 1 := ⟨wST_X4_isLetter, wIN_X4, wCD_X4_isLetter, by decide +kernel, by decide +kernel, by decide +kernel⟩
theorem yo_X4_wordAt : YS yX4_wordAt cX4_wordAt 4 (some .int) 3 := ⟨wST_X4_wordAt, wIN_X4, wCD_X4_wordAt, by decide +kernel, by decide +kernel, by decide +kernel⟩
theorem yo_X4_isWord : YS yX4_isWord cX4_isWord 6 (some .boolean) 4 := ⟨wST_X4_isWord, wIN_X4, wCD_X4_isWord, by decide +kernel, by decide +kernel, by decide +kernel⟩
theorem yo_J0_charAt_5068e : YV yJ0_charAt_5068e cJ0_charAt_5068e 2 (some .char) 1 := ⟨wIM_J0_charAt_5068e, wSE_J0_charAt_5068e, wIN_J0, wCD_J0_charAt_5068e, by decide +kernel, by decide +kernel, by decide +kernel⟩
theorem yo_J0_isLatin1_aae02 : YV yJ0_isLatin1_aae02 cJ0_isLatin1_aae02 1 (some .boolean) 0 := ⟨wIM_J0_isLatin1_aae02, wSE_J0_isLatin1_aae02, wIN_J0, wCD_J0_isLatin1_aae02, by decide +kernel, by decide +kernel, by decide +kernel⟩
theorem yo_J1_charAt_3b067 : YS yJ1_charAt_3b067 cJ1_charAt_3b067 2 (some .char) 2 := ⟨wST_J1_charAt_3b067, wIN_J1, wCD_J1_charAt_3b067, by decide +kernel, by decide +kernel, by decide +kernel⟩
theorem yo_J0_checkIndex_df160 : YS yJ0_checkIndex_df160 cJ0_checkIndex_df160 2 none 2 := ⟨wST_J0_checkIndex_df160, wIN_J0, wCD_J0_checkIndex_df160, by decide +kernel, by decide +kernel, by decide +kernel⟩
theorem yo_J3_checkIndex_8e157 : YS yJ3_checkIndex_8e157 cJ3_checkIndex_8e157 3 (some .int) 3 := ⟨wST_J3_checkIndex_8e157, wIN_J3, wCD_J3_checkIndex_8e157, by decide +kernel, by decide +kernel, by decide +kernel⟩
theorem yo_J2_charAt_3b067 : YS yJ2_charAt_3b067 cJ2_charAt_3b067 2 (some .char) 2 := ⟨wST_J2_charAt_3b067, wIN_J2, wCD_J2_charAt_3b067, by decide +kernel, by decide +kernel, by decide +kernel⟩
theorem yo_J2_checkIndex_2214a : YS yJ2_checkIndex_2214a cJ2_checkIndex_2214a 2 none 2 := ⟨wST_J2_checkIndex_2214a, wIN_J2, wCD_J2_checkIndex_2214a, by decide +kernel, by decide +kernel, by decide +kernel⟩
theorem yo_J2_length_9d52b : YS yJ2_length_9d52b cJ2_length_9d52b 1 (some .int) 1 := ⟨wST_J2_length_9d52b, wIN_J2, wCD_J2_length_9d52b, by decide +kernel, by decide +kernel, by decide +kernel⟩
theorem yo_J2_getChar_3b067 : YS yJ2_getChar_3b067 cJ2_getChar_3b067 2 (some .char) 2 := ⟨wST_J2_getChar_3b067, wIN_J2, wCD_J2_getChar_3b067, by decide +kernel, by decide +kernel, by decide +kernel⟩
theorem yo_X4_addToken : YV yX4_addToken cX4_addToken 4 none 3 := ⟨wIM_X4_addToken, wSE_X4_addToken, wIN_X4, wCD_X4_addToken, by decide +kernel, by decide +kernel, by decide +kernel⟩
theorem yo_X4_isDigit : YS yX4_isDigit cX4_isDigit 1 (some .boolean) 1 := ⟨wST_X4_isDigit, wIN_X4, wCD_X4_isDigit, by decide +kernel, by decide +kernel, by decide +kernel⟩
theorem yo_X4_numberAt : YS yX4_numberAt cX4_numberAt 5 (some .int) 3 := ⟨wST_X4_numberAt, wIN_X4, wCD_X4_numberAt, by decide +kernel, by decide +kernel, by decide +kernel⟩
theorem yo_X4_isSign : YS yX4_isSign cX4_isSign 1 (some .boolean) 1 := ⟨wST_X4_isSign, wIN_X4, wCD_X4_isSign, by decide +kernel, by decide +kernel, by decide +kernel⟩
theorem yo_X4_goesOn : YV yX4_goesOn cX4_goesOn 1 (some .boolean) 0 := ⟨wIM_X4_goesOn, wSE_X4_goesOn, wIN_X4, wCD_X4_goesOn, by decide +kernel, by decide +kernel, by decide +kernel⟩
theorem yo_X4_line : YV yX4_line cX4_line 3 (some .boolean) 0 := ⟨wIM_X4_line, wSE_X4_line, wIN_X4, wCD_X4_line, by decide +kernel, by decide +kernel, by decide +kernel⟩
theorem yo_X4_refuse : YV yX4_refuse cX4_refuse 2 (some .boolean) 1 := ⟨wIM_X4_refuse, wSE_X4_refuse, wIN_X4, wCD_X4_refuse, by decide +kernel, by decide +kernel, by decide +kernel⟩
theorem yo_X4_lawHead : YV yX4_lawHead cX4_lawHead 3 (some .boolean) 2 := ⟨wIM_X4_lawHead, wSE_X4_lawHead, wIN_X4, wCD_X4_lawHead, by decide +kernel, by decide +kernel, by decide +kernel⟩
theorem yo_X4_number : YV yX4_number cX4_number 3 (some .boolean) 2 := ⟨wIM_X4_number, wSE_X4_number, wIN_X4, wCD_X4_number, by decide +kernel, by decide +kernel, by decide +kernel⟩
theorem yo_X4_sum : YV yX4_sum cX4_sum 3 (some .boolean) 0 := ⟨wIM_X4_sum, wSE_X4_sum, wIN_X4, wCD_X4_sum, by decide +kernel, by decide +kernel, by decide +kernel⟩
theorem yo_X4_term : YV yX4_term cX4_term 5 (some .boolean) 0 := ⟨wIM_X4_term, wSE_X4_term, wIN_X4, wCD_X4_term, by decide +kernel, by decide +kernel, by decide +kernel⟩
theorem yo_X4_isUnit : YV yX4_isUnit cX4_isUnit 2 (some .boolean) 1 := ⟨wIM_X4_isUnit, wSE_X4_isUnit, wIN_X4, wCD_X4_isUnit, by decide +kernel, by decide +kernel, by decide +kernel⟩
theorem yo_X7_addStep : YV yX7_addStep cX7_addStep 3 none 2 := ⟨wIM_X7_addStep, wSE_X7_addStep, wIN_X7, wCD_X7_addStep, by decide +kernel, by decide +kernel, by decide +kernel⟩
theorem yo_X4_jobHead : YV yX4_jobHead cX4_jobHead 3 (some .boolean) 2 := ⟨wIM_X4_jobHead, wSE_X4_jobHead, wIN_X4, wCD_X4_jobHead, by decide +kernel, by decide +kernel, by decide +kernel⟩
theorem yo_X4_either : YV yX4_either cX4_either 3 (some .boolean) 1 := ⟨wIM_X4_either, wSE_X4_either, wIN_X4, wCD_X4_either, by decide +kernel, by decide +kernel, by decide +kernel⟩
theorem yo_X4_both : YV yX4_both cX4_both 3 (some .boolean) 1 := ⟨wIM_X4_both, wSE_X4_both, wIN_X4, wCD_X4_both, by decide +kernel, by decide +kernel, by decide +kernel⟩
theorem yo_X4_part : YV yX4_part cX4_part 4 (some .boolean) 1 := ⟨wIM_X4_part, wSE_X4_part, wIN_X4, wCD_X4_part, by decide +kernel, by decide +kernel, by decide +kernel⟩
theorem yo_X4_opened : YV yX4_opened cX4_opened 3 (some .boolean) 2 := ⟨wIM_X4_opened, wSE_X4_opened, wIN_X4, wCD_X4_opened, by decide +kernel, by decide +kernel, by decide +kernel⟩
theorem yo_X7_copyFrom : YV yX7_copyFrom cX7_copyFrom 2 none 1 := ⟨wIM_X7_copyFrom, wSE_X7_copyFrom, wIN_X7, wCD_X7_copyFrom, by decide +kernel, by decide +kernel, by decide +kernel⟩
theorem yo_X9_fault : YV yX9_fault cX9_fault 2 (some .int) 1 := ⟨wIM_X9_fault, wSE_X9_fault, wIN_X9, wCD_X9_fault, by decide +kernel, by decide +kernel, by decide +kernel⟩
theorem yo_X9_force : YV yX9_force cX9_force 3 (some .int) 1 := ⟨wIM_X9_force, wSE_X9_force, wIN_X9, wCD_X9_force, by decide +kernel, by decide +kernel, by decide +kernel⟩
theorem yo_X9_tells : YV yX9_tells cX9_tells 7 (some .int) 5 := ⟨wIM_X9_tells, wSE_X9_tells, wIN_X9, wCD_X9_tells, by decide +kernel, by decide +kernel, by decide +kernel⟩
theorem yo_X9_isTone : YS yX9_isTone cX9_isTone 1 (some .boolean) 1 := ⟨wST_X9_isTone, wIN_X9, wCD_X9_isTone, by decide +kernel, by decide +kernel, by decide +kernel⟩
theorem yo_X6_seeSlice : YV yX6_seeSlice cX6_seeSlice 6 none 5 := ⟨wIM_X6_seeSlice, wSE_X6_seeSlice, wIN_X6, wCD_X6_seeSlice, by decide +kernel, by decide +kernel, by decide +kernel⟩
theorem yo_J9_abs_0f7a4 : YS yJ9_abs_0f7a4 cJ9_abs_0f7a4 1 (some .int) 1 := ⟨wST_J9_abs_0f7a4, wIN_J9, wCD_J9_abs_0f7a4, by decide +kernel, by decide +kernel, by decide +kernel⟩
theorem yo_J9_min_7cf53 : YS yJ9_min_7cf53 cJ9_min_7cf53 2 (some .int) 2 := ⟨wST_J9_min_7cf53, wIN_J9, wCD_J9_min_7cf53, by decide +kernel, by decide +kernel, by decide +kernel⟩
theorem yo_X6_told : YV yX6_told cX6_told 6 (some .int) 3 := ⟨wIM_X6_told, wSE_X6_told, wIN_X6, wCD_X6_told, by decide +kernel, by decide +kernel, by decide +kernel⟩
theorem yo_X7_hasWhen : YV yX7_hasWhen cX7_hasWhen 2 (some .boolean) 1 := ⟨wIM_X7_hasWhen, wSE_X7_hasWhen, wIN_X7, wCD_X7_hasWhen, by decide +kernel, by decide +kernel, by decide +kernel⟩
theorem yo_X6_value : YV yX6_value cX6_value 9 (some .int) 3 := ⟨wIM_X6_value, wSE_X6_value, wIN_X6, wCD_X6_value, by decide +kernel, by decide +kernel, by decide +kernel⟩
theorem yo_X6_joined : YS yX6_joined cX6_joined 3 (some .int) 3 := ⟨wST_X6_joined, wIN_X6, wCD_X6_joined, by decide +kernel, by decide +kernel, by decide +kernel⟩
theorem yo_J9_max_7cf53 : YS yJ9_max_7cf53 cJ9_max_7cf53 2 (some .int) 2 := ⟨wST_J9_max_7cf53, wIN_J9, wCD_J9_max_7cf53, by decide +kernel, by decide +kernel, by decide +kernel⟩
theorem yo_X9_tone : YV yX9_tone cX9_tone 4 (some .int) 2 := ⟨wIM_X9_tone, wSE_X9_tone, wIN_X9, wCD_X9_tone, by decide +kernel, by decide +kernel, by decide +kernel⟩
theorem yo_X9_toneNow : YV yX9_toneNow cX9_toneNow 3 (some .int) 2 := ⟨wIM_X9_toneNow, wSE_X9_toneNow, wIN_X9, wCD_X9_toneNow, by decide +kernel, by decide +kernel, by decide +kernel⟩
theorem yo_X8_law : YV yX8_law cX8_law 1 (some (.object "RingBars$Text")) 0 := ⟨wIM_X8_law, wSE_X8_law, wIN_X8, wCD_X8_law, by decide +kernel, by decide +kernel, by decide +kernel⟩
theorem yo_X6_toneOf : YV yX6_toneOf cX6_toneOf 10 (some .int) 6 := ⟨wIM_X6_toneOf, wSE_X6_toneOf, wIN_X6, wCD_X6_toneOf, by decide +kernel, by decide +kernel, by decide +kernel⟩
theorem yo_X9_ratio : YS yX9_ratio cX9_ratio 2 (some .int) 2 := ⟨wST_X9_ratio, wIN_X9, wCD_X9_ratio, by decide +kernel, by decide +kernel, by decide +kernel⟩
theorem yo_X9_shave : YV yX9_shave cX9_shave 5 (some .int) 3 := ⟨wIM_X9_shave, wSE_X9_shave, wIN_X9, wCD_X9_shave, by decide +kernel, by decide +kernel, by decide +kernel⟩
theorem yo_X9_takeOff : YV yX9_takeOff cX9_takeOff 4 (some .int) 3 := ⟨wIM_X9_takeOff, wSE_X9_takeOff, wIN_X9, wCD_X9_takeOff, by decide +kernel, by decide +kernel, by decide +kernel⟩
theorem yo_X9_isLost : YV yX9_isLost cX9_isLost 3 (some .boolean) 1 := ⟨wIM_X9_isLost, wSE_X9_isLost, wIN_X9, wCD_X9_isLost, by decide +kernel, by decide +kernel, by decide +kernel⟩
theorem yo_X9_pass : YV yX9_pass cX9_pass 5 (some .int) 3 := ⟨wIM_X9_pass, wSE_X9_pass, wIN_X9, wCD_X9_pass, by decide +kernel, by decide +kernel, by decide +kernel⟩
theorem yo_X9_goal : YV yX9_goal cX9_goal 5 (some .boolean) 3 := ⟨wIM_X9_goal, wSE_X9_goal, wIN_X9, wCD_X9_goal, by decide +kernel, by decide +kernel, by decide +kernel⟩
theorem yo_X9_slack : YV yX9_slack cX9_slack 2 (some .boolean) 1 := ⟨wIM_X9_slack, wSE_X9_slack, wIN_X9, wCD_X9_slack, by decide +kernel, by decide +kernel, by decide +kernel⟩
theorem yo_X9_state : YV yX9_state cX9_state 4 (some .int) 2 := ⟨wIM_X9_state, wSE_X9_state, wIN_X9, wCD_X9_state, by decide +kernel, by decide +kernel, by decide +kernel⟩
theorem yo_X9_isTrue : YV yX9_isTrue cX9_isTrue 3 (some .boolean) 1 := ⟨wIM_X9_isTrue, wSE_X9_isTrue, wIN_X9, wCD_X9_isTrue, by decide +kernel, by decide +kernel, by decide +kernel⟩
theorem yo_X9_amiss : YV yX9_amiss cX9_amiss 3 (some .int) 1 := ⟨wIM_X9_amiss, wSE_X9_amiss, wIN_X9, wCD_X9_amiss, by decide +kernel, by decide +kernel, by decide +kernel⟩
theorem yo_X9_findPoints : YV yX9_findPoints cX9_findPoints 7 (some .int) 2 := ⟨wIM_X9_findPoints, wSE_X9_findPoints, wIN_X9, wCD_X9_findPoints, by decide +kernel, by decide +kernel, by decide +kernel⟩
theorem yo_X9_takes : YV yX9_takes cX9_takes 5 (some .int) 3 := ⟨wIM_X9_takes, wSE_X9_takes, wIN_X9, wCD_X9_takes, by decide +kernel, by decide +kernel, by decide +kernel⟩
theorem yo_X0_thinnedCopy : YV yX0_thinnedCopy cX0_thinnedCopy 3 none 2 := ⟨wIM_X0_thinnedCopy, wSE_X0_thinnedCopy, wIN_X0, wCD_X0_thinnedCopy, by decide +kernel, by decide +kernel, by decide +kernel⟩
theorem yo_X9_job : YV yX9_job cX9_job 7 (some .int) 2 := ⟨wIM_X9_job, wSE_X9_job, wIN_X9, wCD_X9_job, by decide +kernel, by decide +kernel, by decide +kernel⟩
theorem yo_X9_comesTrue : YV yX9_comesTrue cX9_comesTrue 7 (some .boolean) 3 := ⟨wIM_X9_comesTrue, wSE_X9_comesTrue, wIN_X9, wCD_X9_comesTrue, by decide +kernel, by decide +kernel, by decide +kernel⟩
theorem yo_X6_seeBar : YV yX6_seeBar cX6_seeBar 5 none 4 := ⟨wIM_X6_seeBar, wSE_X6_seeBar, wIN_X6, wCD_X6_seeBar, by decide +kernel, by decide +kernel, by decide +kernel⟩
theorem yo_X9_doLine : YV yX9_doLine cX9_doLine 9 none 3 := ⟨wIM_X9_doLine, wSE_X9_doLine, wIN_X9, wCD_X9_doLine, by decide +kernel, by decide +kernel, by decide +kernel⟩
theorem yo_X9_fewest : YV yX9_fewest cX9_fewest 5 (some .int) 2 := ⟨wIM_X9_fewest, wSE_X9_fewest, wIN_X9, wCD_X9_fewest, by decide +kernel, by decide +kernel, by decide +kernel⟩
theorem yo_X3_prepare : YV yX3_prepare cX3_prepare 7 none 4 := ⟨wIM_X3_prepare, wSE_X3_prepare, wIN_X3, wCD_X3_prepare, by decide +kernel, by decide +kernel, by decide +kernel⟩
theorem yo_X3_fill : YV yX3_fill cX3_fill 6 none 4 := ⟨wIM_X3_fill, wSE_X3_fill, wIN_X3, wCD_X3_fill, by decide +kernel, by decide +kernel, by decide +kernel⟩
theorem yo_X3_place : YS yX3_place cX3_place 3 (some .int) 3 := ⟨wST_X3_place, wIN_X3, wCD_X3_place, by decide +kernel, by decide +kernel, by decide +kernel⟩
theorem yo_X3_find : YV yX3_find cX3_find 2 (some .int) 0 := ⟨wIM_X3_find, wSE_X3_find, wIN_X3, wCD_X3_find, by decide +kernel, by decide +kernel, by decide +kernel⟩
theorem yo_X3_isTrueNow : YV yX3_isTrueNow cX3_isTrueNow 2 (some .boolean) 0 := ⟨wIM_X3_isTrueNow, wSE_X3_isTrueNow, wIN_X3, wCD_X3_isTrueNow, by decide +kernel, by decide +kernel, by decide +kernel⟩
theorem yo_X3_isNear : YV yX3_isNear cX3_isNear 6 (some .boolean) 4 := ⟨wIM_X3_isNear, wSE_X3_isNear, wIN_X3, wCD_X3_isNear, by decide +kernel, by decide +kernel, by decide +kernel⟩
theorem yo_X2_clear : YV yX2_clear cX2_clear 1 none 0 := ⟨wIM_X2_clear, wSE_X2_clear, wIN_X2, wCD_X2_clear, by decide +kernel, by decide +kernel, by decide +kernel⟩
theorem yo_X3_goOn : YV yX3_goOn cX3_goOn 5 (some .boolean) 2 := ⟨wIM_X3_goOn, wSE_X3_goOn, wIN_X3, wCD_X3_goOn, by decide +kernel, by decide +kernel, by decide +kernel⟩
theorem yo_X3_isNearBehind : YV yX3_isNearBehind cX3_isNearBehind 7 (some .boolean) 2 := ⟨wIM_X3_isNearBehind, wSE_X3_isNearBehind, wIN_X3, wCD_X3_isNearBehind, by decide +kernel, by decide +kernel, by decide +kernel⟩
theorem yo_X3_isReached : YV yX3_isReached cX3_isReached 5 (some .boolean) 3 := ⟨wIM_X3_isReached, wSE_X3_isReached, wIN_X3, wCD_X3_isReached, by decide +kernel, by decide +kernel, by decide +kernel⟩
theorem yo_X3_move : YV yX3_move cX3_move 6 none 2 := ⟨wIM_X3_move, wSE_X3_move, wIN_X3, wCD_X3_move, by decide +kernel, by decide +kernel, by decide +kernel⟩
theorem yo_X2_add : YV yX2_add cX2_add 4 (some .boolean) 1 := ⟨wIM_X2_add, wSE_X2_add, wIN_X2, wCD_X2_add, by decide +kernel, by decide +kernel, by decide +kernel⟩
theorem yo_X9_tap : YV yX9_tap cX9_tap 5 (some .int) 3 := ⟨wIM_X9_tap, wSE_X9_tap, wIN_X9, wCD_X9_tap, by decide +kernel, by decide +kernel, by decide +kernel⟩
theorem yo_X0_addTap : YV yX0_addTap cX0_addTap 3 none 2 := ⟨wIM_X0_addTap, wSE_X0_addTap, wIN_X0, wCD_X0_addTap, by decide +kernel, by decide +kernel, by decide +kernel⟩
theorem yo_X9_fits : YV yX9_fits cX9_fits 8 (some .int) 4 := ⟨wIM_X9_fits, wSE_X9_fits, wIN_X9, wCD_X9_fits, by decide +kernel, by decide +kernel, by decide +kernel⟩
theorem yo_X1_find : YV yX1_find cX1_find 8 (some .int) 5 := ⟨wIM_X1_find, wSE_X1_find, wIN_X1, wCD_X1_find, by decide +kernel, by decide +kernel, by decide +kernel⟩
theorem yo_X1_fill : YV yX1_fill cX1_fill 10 none 7 := ⟨wIM_X1_fill, wSE_X1_fill, wIN_X1, wCD_X1_fill, by decide +kernel, by decide +kernel, by decide +kernel⟩
theorem yo_X1_place : YS yX1_place cX1_place 3 (some .int) 3 := ⟨wST_X1_place, wIN_X1, wCD_X1_place, by decide +kernel, by decide +kernel, by decide +kernel⟩
theorem yo_X1_unfold : YV yX1_unfold cX1_unfold 4 none 1 := ⟨wIM_X1_unfold, wSE_X1_unfold, wIN_X1, wCD_X1_unfold, by decide +kernel, by decide +kernel, by decide +kernel⟩
theorem yo_X1_isHeard : YV yX1_isHeard cX1_isHeard 4 (some .boolean) 2 := ⟨wIM_X1_isHeard, wSE_X1_isHeard, wIN_X1, wCD_X1_isHeard, by decide +kernel, by decide +kernel, by decide +kernel⟩
theorem yo_X1_toneAt : YV yX1_toneAt cX1_toneAt 7 (some .int) 2 := ⟨wIM_X1_toneAt, wSE_X1_toneAt, wIN_X1, wCD_X1_toneAt, by decide +kernel, by decide +kernel, by decide +kernel⟩
theorem yo_X1_nextPass : YV yX1_nextPass cX1_nextPass 8 (some .int) 3 := ⟨wIM_X1_nextPass, wSE_X1_nextPass, wIN_X1, wCD_X1_nextPass, by decide +kernel, by decide +kernel, by decide +kernel⟩
theorem yo_X1_countUnlike : YV yX1_countUnlike cX1_countUnlike 6 (some .int) 4 := ⟨wIM_X1_countUnlike, wSE_X1_countUnlike, wIN_X1, wCD_X1_countUnlike, by decide +kernel, by decide +kernel, by decide +kernel⟩
theorem yo_X1_sure : YV yX1_sure cX1_sure 4 (some .int) 1 := ⟨wIM_X1_sure, wSE_X1_sure, wIN_X1, wCD_X1_sure, by decide +kernel, by decide +kernel, by decide +kernel⟩
theorem yo_X9_off : YV yX9_off cX9_off 2 (some .int) 1 := ⟨wIM_X9_off, wSE_X9_off, wIN_X9, wCD_X9_off, by decide +kernel, by decide +kernel, by decide +kernel⟩
theorem yo_X9_offOf : YV yX9_offOf cX9_offOf 8 (some .int) 1 := ⟨wIM_X9_offOf, wSE_X9_offOf, wIN_X9, wCD_X9_offOf, by decide +kernel, by decide +kernel, by decide +kernel⟩
theorem yo_J9_min_f86c9 : YS yJ9_min_f86c9 cJ9_min_f86c9 4 (some .long) 2 := ⟨wST_J9_min_f86c9, wIN_J9, wCD_J9_min_f86c9, by decide +kernel, by decide +kernel, by decide +kernel⟩
theorem yo_X9_still : YV yX9_still cX9_still 6 (some .int) 3 := ⟨wIM_X9_still, wSE_X9_still, wIN_X9, wCD_X9_still, by decide +kernel, by decide +kernel, by decide +kernel⟩
theorem yo_X9_holes : YV yX9_holes cX9_holes 5 (some .boolean) 3 := ⟨wIM_X9_holes, wSE_X9_holes, wIN_X9, wCD_X9_holes, by decide +kernel, by decide +kernel, by decide +kernel⟩
theorem yo_X9_tube : YV yX9_tube cX9_tube 5 (some .boolean) 3 := ⟨wIM_X9_tube, wSE_X9_tube, wIN_X9, wCD_X9_tube, by decide +kernel, by decide +kernel, by decide +kernel⟩
theorem yo_X9_in : YV yX9_in cX9_in 7 (some .int) 4 := ⟨wIM_X9_in, wSE_X9_in, wIN_X9, wCD_X9_in, by decide +kernel, by decide +kernel, by decide +kernel⟩
theorem yo_X9_isAir : YS yX9_isAir cX9_isAir 2 (some .boolean) 2 := ⟨wST_X9_isAir, wIN_X9, wCD_X9_isAir, by decide +kernel, by decide +kernel, by decide +kernel⟩
theorem yo_X9_driftIn : YV yX9_driftIn cX9_driftIn 3 (some .int) 2 := ⟨wIM_X9_driftIn, wSE_X9_driftIn, wIN_X9, wCD_X9_driftIn, by decide +kernel, by decide +kernel, by decide +kernel⟩
theorem yo_X6_seeAir : YV yX6_seeAir cX6_seeAir 3 none 2 := ⟨wIM_X6_seeAir, wSE_X6_seeAir, wIN_X6, wCD_X6_seeAir, by decide +kernel, by decide +kernel, by decide +kernel⟩
theorem yo_X9_drifted : YS yX9_drifted cX9_drifted 4 (some .int) 2 := ⟨wST_X9_drifted, wIN_X9, wCD_X9_drifted, by decide +kernel, by decide +kernel, by decide +kernel⟩
theorem yo_J9_max_f86c9 : YS yJ9_max_f86c9 cJ9_max_f86c9 4 (some .long) 2 := ⟨wST_J9_max_f86c9, wIN_J9, wCD_J9_max_f86c9, by decide +kernel, by decide +kernel, by decide +kernel⟩
theorem yo_X9_beat : YS yX9_beat cX9_beat 5 (some .int) 4 := ⟨wST_X9_beat, wIN_X9, wCD_X9_beat, by decide +kernel, by decide +kernel, by decide +kernel⟩
theorem yo_X9_air : YS yX9_air cX9_air 1 (some .int) 1 := ⟨wST_X9_air, wIN_X9, wCD_X9_air, by decide +kernel, by decide +kernel, by decide +kernel⟩
theorem yo_X9_stopper : YS yX9_stopper cX9_stopper 5 (some .int) 2 := ⟨wST_X9_stopper, wIN_X9, wCD_X9_stopper, by decide +kernel, by decide +kernel, by decide +kernel⟩
theorem yo_X9_shortest : YS yX9_shortest cX9_shortest 2 (some .int) 2 := ⟨wST_X9_shortest, wIN_X9, wCD_X9_shortest, by decide +kernel, by decide +kernel, by decide +kernel⟩
theorem yo_X9_night : YV yX9_night cX9_night 3 (some .int) 2 := ⟨wIM_X9_night, wSE_X9_night, wIN_X9, wCD_X9_night, by decide +kernel, by decide +kernel, by decide +kernel⟩
theorem yo_X9_nights : YV yX9_nights cX9_nights 3 (some .int) 2 := ⟨wIM_X9_nights, wSE_X9_nights, wIN_X9, wCD_X9_nights, by decide +kernel, by decide +kernel, by decide +kernel⟩
theorem yo_X9_fillLowTones : YV yX9_fillLowTones cX9_fillLowTones 2 none 0 := ⟨wIM_X9_fillLowTones, wSE_X9_fillLowTones, wIN_X9, wCD_X9_fillLowTones, by decide +kernel, by decide +kernel, by decide +kernel⟩
theorem yo_X9_apart : YV yX9_apart cX9_apart 3 (some .int) 0 := ⟨wIM_X9_apart, wSE_X9_apart, wIN_X9, wCD_X9_apart, by decide +kernel, by decide +kernel, by decide +kernel⟩
theorem yo_X9_suiting : YV yX9_suiting cX9_suiting 5 (some .int) 1 := ⟨wIM_X9_suiting, wSE_X9_suiting, wIN_X9, wCD_X9_suiting, by decide +kernel, by decide +kernel, by decide +kernel⟩
theorem yo_X9_worst : YV yX9_worst cX9_worst 8 (some .int) 2 := ⟨wIM_X9_worst, wSE_X9_worst, wIN_X9, wCD_X9_worst, by decide +kernel, by decide +kernel, by decide +kernel⟩
theorem yo_X9_beatIn : YV yX9_beatIn cX9_beatIn 5 (some .int) 4 := ⟨wIM_X9_beatIn, wSE_X9_beatIn, wIN_X9, wCD_X9_beatIn, by decide +kernel, by decide +kernel, by decide +kernel⟩
theorem yo_X9_together : YV yX9_together cX9_together 11 (some .int) 1 := ⟨wIM_X9_together, wSE_X9_together, wIN_X9, wCD_X9_together, by decide +kernel, by decide +kernel, by decide +kernel⟩
theorem yo_J9_abs_067f4 : YS yJ9_abs_067f4 cJ9_abs_067f4 2 (some .long) 1 := ⟨wST_J9_abs_067f4, wIN_J9, wCD_J9_abs_067f4, by decide +kernel, by decide +kernel, by decide +kernel⟩
theorem yo_X9_note : YV yX9_note cX9_note 3 (some .int) 2 := ⟨wIM_X9_note, wSE_X9_note, wIN_X9, wCD_X9_note, by decide +kernel, by decide +kernel, by decide +kernel⟩
theorem yo_X9_blank : YV yX9_blank cX9_blank 3 (some .int) 2 := ⟨wIM_X9_blank, wSE_X9_blank, wIN_X9, wCD_X9_blank, by decide +kernel, by decide +kernel, by decide +kernel⟩
theorem yo_X9_set : YV yX9_set cX9_set 4 (some .int) 2 := ⟨wIM_X9_set, wSE_X9_set, wIN_X9, wCD_X9_set, by decide +kernel, by decide +kernel, by decide +kernel⟩
theorem yo_X5_find : YV yX5_find cX5_find 3 (some .int) 2 := ⟨wIM_X5_find, wSE_X5_find, wIN_X5, wCD_X5_find, by decide +kernel, by decide +kernel, by decide +kernel⟩
theorem yo_X5_goOn : YV yX5_goOn cX5_goOn 8 none 4 := ⟨wIM_X5_goOn, wSE_X5_goOn, wIN_X5, wCD_X5_goOn, by decide +kernel, by decide +kernel, by decide +kernel⟩
theorem yo_X5_ringsTogether : YV yX5_ringsTogether cX5_ringsTogether 5 (some .boolean) 3 := ⟨wIM_X5_ringsTogether, wSE_X5_ringsTogether, wIN_X5, wCD_X5_ringsTogether, by decide +kernel, by decide +kernel, by decide +kernel⟩
theorem yo_X9_down : YV yX9_down cX9_down 7 (some .int) 1 := ⟨wIM_X9_down, wSE_X9_down, wIN_X9, wCD_X9_down, by decide +kernel, by decide +kernel, by decide +kernel⟩
theorem yo_X9_enough : YV yX9_enough cX9_enough 9 (some .int) 3 := ⟨wIM_X9_enough, wSE_X9_enough, wIN_X9, wCD_X9_enough, by decide +kernel, by decide +kernel, by decide +kernel⟩
theorem yo_X6_sumOf : YV yX6_sumOf cX6_sumOf 8 (some .int) 5 := ⟨wIM_X6_sumOf, wSE_X6_sumOf, wIN_X6, wCD_X6_sumOf, by decide +kernel, by decide +kernel, by decide +kernel⟩
theorem yo_X9_image : YV yX9_image cX9_image 2 (some .boolean) 1 := ⟨wIM_X9_image, wSE_X9_image, wIN_X9, wCD_X9_image, by decide +kernel, by decide +kernel, by decide +kernel⟩
theorem yo_X8_copyFrom : YV yX8_copyFrom cX8_copyFrom 3 none 1 := ⟨wIM_X8_copyFrom, wSE_X8_copyFrom, wIN_X8, wCD_X8_copyFrom, by decide +kernel, by decide +kernel, by decide +kernel⟩
theorem yo_X0_copyFrom : YV yX0_copyFrom cX0_copyFrom 3 none 1 := ⟨wIM_X0_copyFrom, wSE_X0_copyFrom, wIN_X0, wCD_X0_copyFrom, by decide +kernel, by decide +kernel, by decide +kernel⟩
theorem yo_X9_look : YV yX9_look cX9_look 2 (some .int) 1 := ⟨wIM_X9_look, wSE_X9_look, wIN_X9, wCD_X9_look, by decide +kernel, by decide +kernel, by decide +kernel⟩
theorem yo_X9_countLost : YV yX9_countLost cX9_countLost 3 (some .int) 0 := ⟨wIM_X9_countLost, wSE_X9_countLost, wIN_X9, wCD_X9_countLost, by decide +kernel, by decide +kernel, by decide +kernel⟩
theorem yo_X9_countTrue : YV yX9_countTrue cX9_countTrue 3 (some .int) 0 := ⟨wIM_X9_countTrue, wSE_X9_countTrue, wIN_X9, wCD_X9_countTrue, by decide +kernel, by decide +kernel, by decide +kernel⟩
theorem yo_X10_init : YI yX10_init cX10_init 1 0 := ⟨wIM_X10_init, wIN_X10, wCD_X10_init, by decide +kernel, by decide +kernel, by decide +kernel⟩
theorem yo_X10_bar : YV yX10_bar cX10_bar 3 (some .int) 1 := ⟨wIM_X10_bar, wSE_X10_bar, wIN_X10, wCD_X10_bar, by decide +kernel, by decide +kernel, by decide +kernel⟩
theorem yo_X10_isIn : YV yX10_isIn cX10_isIn 4 (some .boolean) 3 := ⟨wIM_X10_isIn, wSE_X10_isIn, wIN_X10, wCD_X10_isIn, by decide +kernel, by decide +kernel, by decide +kernel⟩
theorem yo_X10_slice : YV yX10_slice cX10_slice 6 (some .boolean) 5 := ⟨wIM_X10_slice, wSE_X10_slice, wIN_X10, wCD_X10_slice, by decide +kernel, by decide +kernel, by decide +kernel⟩
theorem yo_X10_isSlice : YV yX10_isSlice cX10_isSlice 3 (some .boolean) 2 := ⟨wIM_X10_isSlice, wSE_X10_isSlice, wIN_X10, wCD_X10_isSlice, by decide +kernel, by decide +kernel, by decide +kernel⟩
theorem yo_X10_isBar : YV yX10_isBar cX10_isBar 2 (some .boolean) 1 := ⟨wIM_X10_isBar, wSE_X10_isBar, wIN_X10, wCD_X10_isBar, by decide +kernel, by decide +kernel, by decide +kernel⟩
theorem yo_X10_wax : YV yX10_wax cX10_wax 4 (some .boolean) 3 := ⟨wIM_X10_wax, wSE_X10_wax, wIN_X10, wCD_X10_wax, by decide +kernel, by decide +kernel, by decide +kernel⟩
theorem yo_X10_of : YV yX10_of cX10_of 5 (some .int) 3 := ⟨wIM_X10_of, wSE_X10_of, wIN_X10, wCD_X10_of, by decide +kernel, by decide +kernel, by decide +kernel⟩
theorem yo_X10_feed : YV yX10_feed cX10_feed 6 (some .int) 5 := ⟨wIM_X10_feed, wSE_X10_feed, wIN_X10, wCD_X10_feed, by decide +kernel, by decide +kernel, by decide +kernel⟩
theorem yo_X10_puts : YV yX10_puts cX10_puts 3 none 1 := ⟨wIM_X10_puts, wSE_X10_puts, wIN_X10, wCD_X10_puts, by decide +kernel, by decide +kernel, by decide +kernel⟩
theorem yo_X10_end : YV yX10_end cX10_end 2 (some .boolean) 1 := ⟨wIM_X10_end, wSE_X10_end, wIN_X10, wCD_X10_end, by decide +kernel, by decide +kernel, by decide +kernel⟩
theorem yo_X10_text : YV yX10_text cX10_text 7 (some .int) 2 := ⟨wIM_X10_text, wSE_X10_text, wIN_X10, wCD_X10_text, by decide +kernel, by decide +kernel, by decide +kernel⟩
theorem yo_X10_reads : YV yX10_reads cX10_reads 2 none 0 := ⟨wIM_X10_reads, wSE_X10_reads, wIN_X10, wCD_X10_reads, by decide +kernel, by decide +kernel, by decide +kernel⟩
theorem yo_X10_raw : YV yX10_raw cX10_raw 2 (some .int) 1 := ⟨wIM_X10_raw, wSE_X10_raw, wIN_X10, wCD_X10_raw, by decide +kernel, by decide +kernel, by decide +kernel⟩
theorem yo_X10_isLetter : YV yX10_isLetter cX10_isLetter 2 (some .boolean) 1 := ⟨wIM_X10_isLetter, wSE_X10_isLetter, wIN_X10, wCD_X10_isLetter, by decide +kernel, by decide +kernel, by decide +kernel⟩
theorem yo_X10_wordAt : YV yX10_wordAt cX10_wordAt 6 (some .int) 2 := ⟨wIM_X10_wordAt, wSE_X10_wordAt, wIN_X10, wCD_X10_wordAt, by decide +kernel, by decide +kernel, by decide +kernel⟩
theorem yo_X10_isDigit : YV yX10_isDigit cX10_isDigit 2 (some .boolean) 1 := ⟨wIM_X10_isDigit, wSE_X10_isDigit, wIN_X10, wCD_X10_isDigit, by decide +kernel, by decide +kernel, by decide +kernel⟩
theorem yo_X10_isMarkSign : YV yX10_isMarkSign cX10_isMarkSign 2 (some .boolean) 1 := ⟨wIM_X10_isMarkSign, wSE_X10_isMarkSign, wIN_X10, wCD_X10_isMarkSign, by decide +kernel, by decide +kernel, by decide +kernel⟩
theorem yo_X10_readText : YV yX10_readText cX10_readText 2 (some .int) 0 := ⟨wIM_X10_readText, wSE_X10_readText, wIN_X10, wCD_X10_readText, by decide +kernel, by decide +kernel, by decide +kernel⟩
theorem yo_X10_isBegin : YV yX10_isBegin cX10_isBegin 1 (some .boolean) 0 := ⟨wIM_X10_isBegin, wSE_X10_isBegin, wIN_X10, wCD_X10_isBegin, by decide +kernel, by decide +kernel, by decide +kernel⟩
theorem yo_X10_fails : YV yX10_fails cX10_fails 2 (some .int) 1 := ⟨wIM_X10_fails, wSE_X10_fails, wIN_X10, wCD_X10_fails, by decide +kernel, by decide +kernel, by decide +kernel⟩
theorem yo_X10_readLine : YV yX10_readLine cX10_readLine 3 (some .int) 1 := ⟨wIM_X10_readLine, wSE_X10_readLine, wIN_X10, wCD_X10_readLine, by decide +kernel, by decide +kernel, by decide +kernel⟩
theorem yo_X10_readNumbers : YV yX10_readNumbers cX10_readNumbers 3 (some .int) 2 := ⟨wIM_X10_readNumbers, wSE_X10_readNumbers, wIN_X10, wCD_X10_readNumbers, by decide +kernel, by decide +kernel, by decide +kernel⟩
theorem yo_X10_readNumber : YV yX10_readNumber cX10_readNumber 4 (some .int) 2 := ⟨wIM_X10_readNumber, wSE_X10_readNumber, wIN_X10, wCD_X10_readNumber, by decide +kernel, by decide +kernel, by decide +kernel⟩
theorem yo_X10_readSum : YV yX10_readSum cX10_readSum 2 (some .int) 0 := ⟨wIM_X10_readSum, wSE_X10_readSum, wIN_X10, wCD_X10_readSum, by decide +kernel, by decide +kernel, by decide +kernel⟩
theorem yo_X10_readProduct : YV yX10_readProduct cX10_readProduct 2 (some .int) 0 := ⟨wIM_X10_readProduct, wSE_X10_readProduct, wIN_X10, wCD_X10_readProduct, by decide +kernel, by decide +kernel, by decide +kernel⟩
theorem yo_X10_readUnit : YV yX10_readUnit cX10_readUnit 2 (some .int) 0 := ⟨wIM_X10_readUnit, wSE_X10_readUnit, wIN_X10, wCD_X10_readUnit, by decide +kernel, by decide +kernel, by decide +kernel⟩
theorem yo_X10_emits : YV yX10_emits cX10_emits 3 none 2 := ⟨wIM_X10_emits, wSE_X10_emits, wIN_X10, wCD_X10_emits, by decide +kernel, by decide +kernel, by decide +kernel⟩
theorem yo_X10_isSign : YV yX10_isSign cX10_isSign 2 (some .boolean) 1 := ⟨wIM_X10_isSign, wSE_X10_isSign, wIN_X10, wCD_X10_isSign, by decide +kernel, by decide +kernel, by decide +kernel⟩
theorem yo_X10_isWord : YV yX10_isWord cX10_isWord 2 (some .boolean) 1 := ⟨wIM_X10_isWord, wSE_X10_isWord, wIN_X10, wCD_X10_isWord, by decide +kernel, by decide +kernel, by decide +kernel⟩
theorem yo_X10_readAny : YV yX10_readAny cX10_readAny 4 (some .int) 0 := ⟨wIM_X10_readAny, wSE_X10_readAny, wIN_X10, wCD_X10_readAny, by decide +kernel, by decide +kernel, by decide +kernel⟩
theorem yo_X10_waits : YV yX10_waits cX10_waits 2 none 1 := ⟨wIM_X10_waits, wSE_X10_waits, wIN_X10, wCD_X10_waits, by decide +kernel, by decide +kernel, by decide +kernel⟩
theorem yo_X10_readCompared : YV yX10_readCompared cX10_readCompared 2 (some .int) 0 := ⟨wIM_X10_readCompared, wSE_X10_readCompared, wIN_X10, wCD_X10_readCompared, by decide +kernel, by decide +kernel, by decide +kernel⟩
theorem yo_X10_settles : YV yX10_settles cX10_settles 2 none 1 := ⟨wIM_X10_settles, wSE_X10_settles, wIN_X10, wCD_X10_settles, by decide +kernel, by decide +kernel, by decide +kernel⟩
theorem yo_X10_fault : YV yX10_fault cX10_fault 2 (some .int) 1 := ⟨wIM_X10_fault, wSE_X10_fault, wIN_X10, wCD_X10_fault, by decide +kernel, by decide +kernel, by decide +kernel⟩
theorem yo_X10_force : YV yX10_force cX10_force 3 (some .int) 1 := ⟨wIM_X10_force, wSE_X10_force, wIN_X10, wCD_X10_force, by decide +kernel, by decide +kernel, by decide +kernel⟩
theorem yo_X10_isLaw : YV yX10_isLaw cX10_isLaw 2 (some .boolean) 1 := ⟨wIM_X10_isLaw, wSE_X10_isLaw, wIN_X10, wCD_X10_isLaw, by decide +kernel, by decide +kernel, by decide +kernel⟩
theorem yo_X10_tells : YV yX10_tells cX10_tells 6 (some .int) 5 := ⟨wIM_X10_tells, wSE_X10_tells, wIN_X10, wCD_X10_tells, by decide +kernel, by decide +kernel, by decide +kernel⟩
theorem yo_X10_isTone : YV yX10_isTone cX10_isTone 2 (some .boolean) 1 := ⟨wIM_X10_isTone, wSE_X10_isTone, wIN_X10, wCD_X10_isTone, by decide +kernel, by decide +kernel, by decide +kernel⟩
theorem yo_X10_asksSlice : YV yX10_asksSlice cX10_asksSlice 3 none 2 := ⟨wIM_X10_asksSlice, wSE_X10_asksSlice, wIN_X10, wCD_X10_asksSlice, by decide +kernel, by decide +kernel, by decide +kernel⟩
theorem yo_X10_asks : YV yX10_asks cX10_asks 8 none 6 := ⟨wIM_X10_asks, wSE_X10_asks, wIN_X10, wCD_X10_asks, by decide +kernel, by decide +kernel, by decide +kernel⟩
theorem yo_X10_size : YV yX10_size cX10_size 2 (some .int) 1 := ⟨wIM_X10_size, wSE_X10_size, wIN_X10, wCD_X10_size, by decide +kernel, by decide +kernel, by decide +kernel⟩
theorem yo_X10_tellsBy : YV yX10_tellsBy cX10_tellsBy 8 (some .int) 3 := ⟨wIM_X10_tellsBy, wSE_X10_tellsBy, wIN_X10, wCD_X10_tellsBy, by decide +kernel, by decide +kernel, by decide +kernel⟩
theorem yo_X10_isSo : YV yX10_isSo cX10_isSo 3 (some .boolean) 2 := ⟨wIM_X10_isSo, wSE_X10_isSo, wIN_X10, wCD_X10_isSo, by decide +kernel, by decide +kernel, by decide +kernel⟩
theorem yo_X10_worth : YV yX10_worth cX10_worth 6 (some .int) 3 := ⟨wIM_X10_worth, wSE_X10_worth, wIN_X10, wCD_X10_worth, by decide +kernel, by decide +kernel, by decide +kernel⟩
theorem yo_X10_twoOf : YV yX10_twoOf cX10_twoOf 4 (some .int) 3 := ⟨wIM_X10_twoOf, wSE_X10_twoOf, wIN_X10, wCD_X10_twoOf, by decide +kernel, by decide +kernel, by decide +kernel⟩
theorem yo_X10_tone : YV yX10_tone cX10_tone 3 (some .int) 2 := ⟨wIM_X10_tone, wSE_X10_tone, wIN_X10, wCD_X10_tone, by decide +kernel, by decide +kernel, by decide +kernel⟩
theorem yo_X10_toneNow : YV yX10_toneNow cX10_toneNow 3 (some .int) 2 := ⟨wIM_X10_toneNow, wSE_X10_toneNow, wIN_X10, wCD_X10_toneNow, by decide +kernel, by decide +kernel, by decide +kernel⟩
theorem yo_X10_toneBy : YV yX10_toneBy cX10_toneBy 7 (some .int) 3 := ⟨wIM_X10_toneBy, wSE_X10_toneBy, wIN_X10, wCD_X10_toneBy, by decide +kernel, by decide +kernel, by decide +kernel⟩
theorem yo_X10_shave : YV yX10_shave cX10_shave 4 (some .int) 3 := ⟨wIM_X10_shave, wSE_X10_shave, wIN_X10, wCD_X10_shave, by decide +kernel, by decide +kernel, by decide +kernel⟩
theorem yo_X10_canPass : YV yX10_canPass cX10_canPass 4 (some .boolean) 3 := ⟨wIM_X10_canPass, wSE_X10_canPass, wIN_X10, wCD_X10_canPass, by decide +kernel, by decide +kernel, by decide +kernel⟩
theorem yo_X10_takesOff : YV yX10_takesOff cX10_takesOff 4 none 3 := ⟨wIM_X10_takesOff, wSE_X10_takesOff, wIN_X10, wCD_X10_takesOff, by decide +kernel, by decide +kernel, by decide +kernel⟩
theorem yo_X10_isLost : YV yX10_isLost cX10_isLost 3 (some .boolean) 1 := ⟨wIM_X10_isLost, wSE_X10_isLost, wIN_X10, wCD_X10_isLost, by decide +kernel, by decide +kernel, by decide +kernel⟩
theorem yo_X10_pass : YV yX10_pass cX10_pass 4 (some .int) 3 := ⟨wIM_X10_pass, wSE_X10_pass, wIN_X10, wCD_X10_pass, by decide +kernel, by decide +kernel, by decide +kernel⟩
theorem yo_X10_goal : YV yX10_goal cX10_goal 4 (some .boolean) 3 := ⟨wIM_X10_goal, wSE_X10_goal, wIN_X10, wCD_X10_goal, by decide +kernel, by decide +kernel, by decide +kernel⟩
theorem yo_X10_slack : YV yX10_slack cX10_slack 2 (some .boolean) 1 := ⟨wIM_X10_slack, wSE_X10_slack, wIN_X10, wCD_X10_slack, by decide +kernel, by decide +kernel, by decide +kernel⟩
theorem yo_X10_takes : YV yX10_takes cX10_takes 6 (some .int) 3 := ⟨wIM_X10_takes, wSE_X10_takes, wIN_X10, wCD_X10_takes, by decide +kernel, by decide +kernel, by decide +kernel⟩
theorem yo_X10_job : YV yX10_job cX10_job 6 (some .int) 2 := ⟨wIM_X10_job, wSE_X10_job, wIN_X10, wCD_X10_job, by decide +kernel, by decide +kernel, by decide +kernel⟩
theorem yo_X10_asksJob : YV yX10_asksJob cX10_asksJob 6 none 1 := ⟨wIM_X10_asksJob, wSE_X10_asksJob, wIN_X10, wCD_X10_asksJob, by decide +kernel, by decide +kernel, by decide +kernel⟩
theorem yo_X10_doesLine : YV yX10_doesLine cX10_doesLine 7 none 2 := ⟨wIM_X10_doesLine, wSE_X10_doesLine, wIN_X10, wCD_X10_doesLine, by decide +kernel, by decide +kernel, by decide +kernel⟩
theorem yo_X10_fewest : YV yX10_fewest cX10_fewest 4 (some .int) 2 := ⟨wIM_X10_fewest, wSE_X10_fewest, wIN_X10, wCD_X10_fewest, by decide +kernel, by decide +kernel, by decide +kernel⟩
theorem yo_X10_findsFewest : YV yX10_findsFewest cX10_findsFewest 4 (some .int) 1 := ⟨wIM_X10_findsFewest, wSE_X10_findsFewest, wIN_X10, wCD_X10_findsFewest, by decide +kernel, by decide +kernel, by decide +kernel⟩
theorem yo_X10_findsTable : YV yX10_findsTable cX10_findsTable 6 none 1 := ⟨wIM_X10_findsTable, wSE_X10_findsTable, wIN_X10, wCD_X10_findsTable, by decide +kernel, by decide +kernel, by decide +kernel⟩
theorem yo_X10_does : YV yX10_does cX10_does 6 (some .boolean) 2 := ⟨wIM_X10_does, wSE_X10_does, wIN_X10, wCD_X10_does, by decide +kernel, by decide +kernel, by decide +kernel⟩
theorem yo_X10_wouldBe : YV yX10_wouldBe cX10_wouldBe 6 (some .int) 1 := ⟨wIM_X10_wouldBe, wSE_X10_wouldBe, wIN_X10, wCD_X10_wouldBe, by decide +kernel, by decide +kernel, by decide +kernel⟩
theorem yo_X10_toneByTable : YV yX10_toneByTable cX10_toneByTable 6 (some .int) 2 := ⟨wIM_X10_toneByTable, wSE_X10_toneByTable, wIN_X10, wCD_X10_toneByTable, by decide +kernel, by decide +kernel, by decide +kernel⟩
theorem yo_X10_goesOn : YV yX10_goesOn cX10_goesOn 4 (some .boolean) 2 := ⟨wIM_X10_goesOn, wSE_X10_goesOn, wIN_X10, wCD_X10_goesOn, by decide +kernel, by decide +kernel, by decide +kernel⟩
theorem yo_X10_tap : YV yX10_tap cX10_tap 6 (some .int) 3 := ⟨wIM_X10_tap, wSE_X10_tap, wIN_X10, wCD_X10_tap, by decide +kernel, by decide +kernel, by decide +kernel⟩
theorem yo_X10_fits : YV yX10_fits cX10_fits 5 (some .int) 4 := ⟨wIM_X10_fits, wSE_X10_fits, wIN_X10, wCD_X10_fits, by decide +kernel, by decide +kernel, by decide +kernel⟩
theorem yo_X10_findsFits : YV yX10_findsFits cX10_findsFits 7 none 3 := ⟨wIM_X10_findsFits, wSE_X10_findsFits, wIN_X10, wCD_X10_findsFits, by decide +kernel, by decide +kernel, by decide +kernel⟩
theorem yo_X10_fitsAll : YV yX10_fitsAll cX10_fitsAll 4 (some .boolean) 2 := ⟨wIM_X10_fitsAll, wSE_X10_fitsAll, wIN_X10, wCD_X10_fitsAll, by decide +kernel, by decide +kernel, by decide +kernel⟩
theorem yo_X10_toneOf : YV yX10_toneOf cX10_toneOf 7 (some .int) 3 := ⟨wIM_X10_toneOf, wSE_X10_toneOf, wIN_X10, wCD_X10_toneOf, by decide +kernel, by decide +kernel, by decide +kernel⟩
theorem yo_X10_nextPass : YV yX10_nextPass cX10_nextPass 6 (some .int) 1 := ⟨wIM_X10_nextPass, wSE_X10_nextPass, wIN_X10, wCD_X10_nextPass, by decide +kernel, by decide +kernel, by decide +kernel⟩
theorem yo_X10_unlikeBy : YV yX10_unlikeBy cX10_unlikeBy 8 (some .int) 2 := ⟨wIM_X10_unlikeBy, wSE_X10_unlikeBy, wIN_X10, wCD_X10_unlikeBy, by decide +kernel, by decide +kernel, by decide +kernel⟩
theorem yo_X10_sureOf : YV yX10_sureOf cX10_sureOf 3 (some .int) 1 := ⟨wIM_X10_sureOf, wSE_X10_sureOf, wIN_X10, wCD_X10_sureOf, by decide +kernel, by decide +kernel, by decide +kernel⟩
theorem yo_X10_off : YV yX10_off cX10_off 2 (some .int) 1 := ⟨wIM_X10_off, wSE_X10_off, wIN_X10, wCD_X10_off, by decide +kernel, by decide +kernel, by decide +kernel⟩
theorem yo_X10_offOf : YV yX10_offOf cX10_offOf 6 (some .int) 1 := ⟨wIM_X10_offOf, wSE_X10_offOf, wIN_X10, wCD_X10_offOf, by decide +kernel, by decide +kernel, by decide +kernel⟩
theorem yo_X10_still : YV yX10_still cX10_still 4 (some .int) 3 := ⟨wIM_X10_still, wSE_X10_still, wIN_X10, wCD_X10_still, by decide +kernel, by decide +kernel, by decide +kernel⟩
theorem yo_X10_stills : YV yX10_stills cX10_stills 5 (some .int) 2 := ⟨wIM_X10_stills, wSE_X10_stills, wIN_X10, wCD_X10_stills, by decide +kernel, by decide +kernel, by decide +kernel⟩
theorem yo_X10_isStill : YV yX10_isStill cX10_isStill 4 (some .boolean) 3 := ⟨wIM_X10_isStill, wSE_X10_isStill, wIN_X10, wCD_X10_isStill, by decide +kernel, by decide +kernel, by decide +kernel⟩
theorem yo_X10_sways : YV yX10_sways cX10_sways 4 (some .boolean) 3 := ⟨wIM_X10_sways, wSE_X10_sways, wIN_X10, wCD_X10_sways, by decide +kernel, by decide +kernel, by decide +kernel⟩
theorem yo_X10_stillAt : YV yX10_stillAt cX10_stillAt 6 (some .int) 3 := ⟨wIM_X10_stillAt, wSE_X10_stillAt, wIN_X10, wCD_X10_stillAt, by decide +kernel, by decide +kernel, by decide +kernel⟩
theorem yo_X10_holes : YV yX10_holes cX10_holes 4 (some .boolean) 3 := ⟨wIM_X10_holes, wSE_X10_holes, wIN_X10, wCD_X10_holes, by decide +kernel, by decide +kernel, by decide +kernel⟩
theorem yo_X10_state : YV yX10_state cX10_state 3 (some .int) 2 := ⟨wIM_X10_state, wSE_X10_state, wIN_X10, wCD_X10_state, by decide +kernel, by decide +kernel, by decide +kernel⟩
theorem yo_X10_isTrue : YV yX10_isTrue cX10_isTrue 3 (some .boolean) 1 := ⟨wIM_X10_isTrue, wSE_X10_isTrue, wIN_X10, wCD_X10_isTrue, by decide +kernel, by decide +kernel, by decide +kernel⟩
theorem yo_X10_amiss : YV yX10_amiss cX10_amiss 3 (some .int) 1 := ⟨wIM_X10_amiss, wSE_X10_amiss, wIN_X10, wCD_X10_amiss, by decide +kernel, by decide +kernel, by decide +kernel⟩
theorem yo_X10_tube : YV yX10_tube cX10_tube 4 (some .boolean) 3 := ⟨wIM_X10_tube, wSE_X10_tube, wIN_X10, wCD_X10_tube, by decide +kernel, by decide +kernel, by decide +kernel⟩
theorem yo_X10_in : YV yX10_in cX10_in 8 (some .int) 4 := ⟨wIM_X10_in, wSE_X10_in, wIN_X10, wCD_X10_in, by decide +kernel, by decide +kernel, by decide +kernel⟩
theorem yo_X10_isHeat : YV yX10_isHeat cX10_isHeat 2 (some .boolean) 1 := ⟨wIM_X10_isHeat, wSE_X10_isHeat, wIN_X10, wCD_X10_isHeat, by decide +kernel, by decide +kernel, by decide +kernel⟩
theorem yo_X10_isWet : YV yX10_isWet cX10_isWet 2 (some .boolean) 1 := ⟨wIM_X10_isWet, wSE_X10_isWet, wIN_X10, wCD_X10_isWet, by decide +kernel, by decide +kernel, by decide +kernel⟩
theorem yo_X10_beatOf : YV yX10_beatOf cX10_beatOf 5 (some .int) 4 := ⟨wIM_X10_beatOf, wSE_X10_beatOf, wIN_X10, wCD_X10_beatOf, by decide +kernel, by decide +kernel, by decide +kernel⟩
theorem yo_X10_sounds : YV yX10_sounds cX10_sounds 3 (some .int) 2 := ⟨wIM_X10_sounds, wSE_X10_sounds, wIN_X10, wCD_X10_sounds, by decide +kernel, by decide +kernel, by decide +kernel⟩
theorem yo_X10_drifted : YV yX10_drifted cX10_drifted 8 (some .int) 3 := ⟨wIM_X10_drifted, wSE_X10_drifted, wIN_X10, wCD_X10_drifted, by decide +kernel, by decide +kernel, by decide +kernel⟩
theorem yo_X10_night : YV yX10_night cX10_night 3 (some .int) 2 := ⟨wIM_X10_night, wSE_X10_night, wIN_X10, wCD_X10_night, by decide +kernel, by decide +kernel, by decide +kernel⟩
theorem yo_X10_nights : YV yX10_nights cX10_nights 5 (some .int) 2 := ⟨wIM_X10_nights, wSE_X10_nights, wIN_X10, wCD_X10_nights, by decide +kernel, by decide +kernel, by decide +kernel⟩
theorem yo_X10_suits : YV yX10_suits cX10_suits 2 (some .int) 1 := ⟨wIM_X10_suits, wSE_X10_suits, wIN_X10, wCD_X10_suits, by decide +kernel, by decide +kernel, by decide +kernel⟩
theorem yo_X10_worstBeat : YV yX10_worstBeat cX10_worstBeat 4 (some .int) 2 := ⟨wIM_X10_worstBeat, wSE_X10_worstBeat, wIN_X10, wCD_X10_worstBeat, by decide +kernel, by decide +kernel, by decide +kernel⟩
theorem yo_X10_worstOf : YV yX10_worstOf cX10_worstOf 7 (some .int) 2 := ⟨wIM_X10_worstOf, wSE_X10_worstOf, wIN_X10, wCD_X10_worstOf, by decide +kernel, by decide +kernel, by decide +kernel⟩
theorem yo_X10_together : YV yX10_together cX10_together 8 (some .int) 1 := ⟨wIM_X10_together, wSE_X10_together, wIN_X10, wCD_X10_together, by decide +kernel, by decide +kernel, by decide +kernel⟩
theorem yo_X10_note : YV yX10_note cX10_note 3 (some .int) 2 := ⟨wIM_X10_note, wSE_X10_note, wIN_X10, wCD_X10_note, by decide +kernel, by decide +kernel, by decide +kernel⟩
theorem yo_X10_blank : YV yX10_blank cX10_blank 3 (some .int) 2 := ⟨wIM_X10_blank, wSE_X10_blank, wIN_X10, wCD_X10_blank, by decide +kernel, by decide +kernel, by decide +kernel⟩
theorem yo_X10_set : YV yX10_set cX10_set 4 (some .int) 2 := ⟨wIM_X10_set, wSE_X10_set, wIN_X10, wCD_X10_set, by decide +kernel, by decide +kernel, by decide +kernel⟩
theorem yo_X10_leastWaste : YV yX10_leastWaste cX10_leastWaste 6 (some .int) 1 := ⟨wIM_X10_leastWaste, wSE_X10_leastWaste, wIN_X10, wCD_X10_leastWaste, by decide +kernel, by decide +kernel, by decide +kernel⟩
theorem yo_X10_canHave : YV yX10_canHave cX10_canHave 5 (some .boolean) 2 := ⟨wIM_X10_canHave, wSE_X10_canHave, wIN_X10, wCD_X10_canHave, by decide +kernel, by decide +kernel, by decide +kernel⟩
theorem yo_X10_down : YV yX10_down cX10_down 5 (some .int) 1 := ⟨wIM_X10_down, wSE_X10_down, wIN_X10, wCD_X10_down, by decide +kernel, by decide +kernel, by decide +kernel⟩
theorem yo_X10_enough : YV yX10_enough cX10_enough 7 (some .int) 3 := ⟨wIM_X10_enough, wSE_X10_enough, wIN_X10, wCD_X10_enough, by decide +kernel, by decide +kernel, by decide +kernel⟩
theorem yo_X10_image : YV yX10_image cX10_image 2 (some .boolean) 1 := ⟨wIM_X10_image, wSE_X10_image, wIN_X10, wCD_X10_image, by decide +kernel, by decide +kernel, by decide +kernel⟩
theorem yo_X10_kept : YV yX10_kept cX10_kept 2 (some .int) 1 := ⟨wIM_X10_kept, wSE_X10_kept, wIN_X10, wCD_X10_kept, by decide +kernel, by decide +kernel, by decide +kernel⟩
theorem yo_X10_keepsBars : YV yX10_keepsBars cX10_keepsBars 2 none 0 := ⟨wIM_X10_keepsBars, wSE_X10_keepsBars, wIN_X10, wCD_X10_keepsBars, by decide +kernel, by decide +kernel, by decide +kernel⟩
theorem yo_X10_keepsTaps : YV yX10_keepsTaps cX10_keepsTaps 2 none 0 := ⟨wIM_X10_keepsTaps, wSE_X10_keepsTaps, wIN_X10, wCD_X10_keepsTaps, by decide +kernel, by decide +kernel, by decide +kernel⟩
theorem yo_X10_keepsTexts : YV yX10_keepsTexts cX10_keepsTexts 2 none 0 := ⟨wIM_X10_keepsTexts, wSE_X10_keepsTexts, wIN_X10, wCD_X10_keepsTexts, by decide +kernel, by decide +kernel, by decide +kernel⟩
theorem yo_X10_look : YV yX10_look cX10_look 2 (some .int) 1 := ⟨wIM_X10_look, wSE_X10_look, wIN_X10, wCD_X10_look, by decide +kernel, by decide +kernel, by decide +kernel⟩
theorem yo_X10_barsThat : YV yX10_barsThat cX10_barsThat 4 (some .int) 1 := ⟨wIM_X10_barsThat, wSE_X10_barsThat, wIN_X10, wCD_X10_barsThat, by decide +kernel, by decide +kernel, by decide +kernel⟩
end
section
/-! ===== new int[N][M], straight off the model's own words: a loop that keeps 'so many rows stand' ===== -/
section MMW
variable {E : CtlPost} {e : Env} {d : Bool} {acts : List Action} {U : State}
theorem mm_new {cA comp : ClassId} {kA : Class} {ty : FieldType} {N : Nat} {iv : Value} (hk : U.vm.classes[cA]? = some kA) (hkind : kA.kind = .array comp ty) (hl : N ≤ e.platform.arrayLengthLimit) (hb : N * componentBytes ty ≤ e.platform.maxHeapBytes) (hf : fits ty iv = true) (h1 : U.heap.size < e.platform.maxCells) (h2 : U.slotsUsed + N ≤ e.platform.maxSlots) {Qa : Addr → Pre}
    (hq : ∀ acts', Qa U.heap.size d acts' (U.pushCell { cls := cA, slots := Array.replicate N iv, vm := .none })) : wp (Jvm.newArray cA N iv) Qa E e d acts U := by
  have g1 : ¬ N > e.platform.arrayLengthLimit := by omega
  have g2 : ¬ N * componentBytes ty > e.platform.maxHeapBytes := by omega
  have hfs : ∀ i v, (Array.replicate N iv)[i]? = some v → U.fitsSlot cA .none i v = true := by
    intro i v hv
    rw [Array.getElem?_replicate] at hv
    by_cases hi : i < N
    · rw [if_pos hi] at hv
      cases hv
      simp [State.fitsSlot, State.slotType?, hk, hkind, hf]
    · rw [if_neg hi] at hv
      cases hv
  simp only [Jvm.newArray, Jvm.arrayFits, wp_bind', W.ask, W.ite, g1, if_false, wp_pure', W.theClass, hk, hkind, g2, W.alloc, W.stop, Option.some.injEq, exists_eq_left', Array.size_replicate]
  rw [if_neg (by omega)]
  exact ⟨h1, h2, hfs, hq _⟩
end MMW
/-- i rows stand, behind the outer array at h -/
def mmR (h : Nat) (cA cI : ClassId) (N M i : Nat) (H0 H : Heap) : Prop := H.size = h + 1 + i ∧ (∀ q : Nat, q < h → H[q]? = H0[q]?) ∧ (∃ oc : Cell, H[h]? = some oc ∧ oc.cls = cA ∧ oc.vm = .none ∧ oc.slots.size = N ∧ ∀ j : Nat, j < i → oc.slots[j]? = some (.ref (h + 1 + j))) ∧ ∀ j : Nat, j < i → H[h + 1 + j]? = some { cls := cI, slots := Array.replicate M (.int 0), vm := .none }
/-- the states that the loop runs through -/
def mmF (cA cI : ClassId) (N M : Nat) (S0 : State) : Nat → State
  | 0 => S0.pushCell { cls := cA, slots := Array.replicate N .null, vm := .none }
  | i + 1 => ((mmF cA cI N M S0 i).pushCell { cls := cI, slots := Array.replicate M (.int 0), vm := .none }).setCell S0.heap.size ((((mmF cA cI N M S0 i).heap[S0.heap.size]?).getD { cls := cI, slots := #[], vm := .none }).setSlot i (.ref (S0.heap.size + 1 + i)))
section MMS
variable {p : Program} {l : Launch} {e : Env} {R : Room} {s : State} {m : MethodId} {args : Array Value} {below : List Frame} {meth : Method} {c : Code} {T : State} {locs : List Loc} {cells slots : Nat}
theorem mm_step (X : Stand p l e R s m args below meth c T locs cells slots) (hexec : p.tables.exec = Jvm.exec) {own : String} {index : Nat} {cA cI : ClassId} {kA kI : Class} {c2 : ClassId} (hown : s.vm.findClass own = some m.cls) (hclink : (Cond.classLink own index ("[" ++ (FieldType.array .int).toString)).before args s = true)
    (hfA : s.vm.findClass ("[" ++ (FieldType.array .int).toString) = some cA) (hkA : s.vm.classes[cA]? = some kA) (hkindA : kA.kind = .array cI (.array .int)) (hkI : s.vm.classes[cI]? = some kI) (hkindI : kI.kind = .array c2 .int)
    {g : JFrame} (hg : g.method = m) (hdg : decode c.code g.pc = .ok (.multianewarray index 2, 4)) {n k : Int32} {N M : Nat} {rest : List Value} (hstack : g.stack = .int k :: .int n :: rest) (hn : ¬ n < 0) (hk : ¬ k < 0) (hN : n.toNatClampNeg = N) (hM : k.toNatClampNeg = M) (hN2 : N ≤ 10000) (hM2 : M ≤ 10000)
    (hcells : cells + (1 + N) ≤ R.cells) (hslots : slots + (N + N * M) ≤ R.slots) :
    ∃ T' : State, mmR T.heap.size cA cI N M N T.heap T'.heap ∧ Stand p l e R s m args below meth c T' locs (cells + 1 + N) (slots + N + N * M) ∧
      ∀ target, Steps p.tables e below (T'.setTop { g with pc := g.pc + 4, stack := .ref T.heap.size :: rest }) target → Steps p.tables e below (T.setTop g) target := by
  subst hg
  have hpl : e.platform.magicAccessors = ({} : Platform).magicAccessors := by rw [X.admits.platform]
  obtain ⟨c0, hfc0, hcl⟩ := Cond.classLink_spec hown hclink e.platform hpl
  cases hfA.symm.trans hfc0
  obtain ⟨hg₁, hwarm₁, -⟩ := State.classEntry (e := e) X.warmed hcl
  generalize T.vm.noted g.method.cls index (.cls cA) = vm₁ at hg₁ hwarm₁
  have hal : s.vm.Alike vm₁ := hwarm₁.alike
  obtain ⟨kA₁, hkA₁, heA⟩ := hal.2.2 _ _ hkA
  obtain ⟨kI₁, hkI₁, heI⟩ := hal.2.2 _ _ hkI
  have hkindA₁ : kA₁.kind = .array cI (.array .int) := by rw [heA]; exact hkindA
  have hkindI₁ : kI₁.kind = .array c2 .int := by rw [heI]; exact hkindI
  have X₁ := X.noted hwarm₁
  obtain ⟨hr1, hr2⟩ := X.roomAbove hcells hslots
  have hlim := Launch.admits_arrayLengthLimit X.admits
  have hmax := Launch.admits_maxHeapBytes X.admits
  -- what a state with i rows is, behind the top frame f
  let Inv : JFrame → Nat → State → Prop := fun f i U => ∃ (T' : State) (L : List Loc), U = T'.setTop f ∧ mmR T.heap.size cA cI N M i T.heap T'.heap ∧ T'.vm = vm₁ ∧ T'.slotsUsed = T.slotsUsed + N + i * M ∧ (∀ q ∈ L, q.base = T.heap.size) ∧ Stand p l e R s g.method args below meth c T' (locs ++ L) (cells + 1 + i) (slots + N + i * M)
  have inv0 : ∀ f : JFrame, Inv f 0 (((T.setVm vm₁).setTop f).pushCell { cls := cA, slots := Array.replicate N .null, vm := .none }) := by
    intro f
    refine ⟨(T.setVm vm₁).pushCell { cls := cA, slots := Array.replicate N .null, vm := .none }, [], by rw [State.pushCell_setTop], ⟨by simp [State.pushCell], fun q hq => State.heap_pushCell_of_lt _ _ hq, ⟨_, State.heap_pushCell_size _ _, rfl, rfl, by simp, fun j hj => by omega⟩, fun j hj => by omega⟩, rfl, by simp, (fun q hq => by cases hq), ?_⟩
    have h := X₁.pushed ({ cls := cA, slots := Array.replicate N .null, vm := .none } : Cell)
    simpa using h
  have inv1 : ∀ (f : JFrame) (i : Nat) (U : State), i < N → Inv f i U → U.heap.size = T.heap.size + 1 + i ∧ U.vm = vm₁ ∧ U.slotsUsed = T.slotsUsed + N + i * M ∧ ∃ oc : Cell, U.heap[T.heap.size]? = some oc ∧ oc.cls = cA ∧ oc.vm = .none ∧ oc.slots.size = N ∧
      Inv f (i + 1) ((U.pushCell { cls := cI, slots := Array.replicate M (.int 0), vm := .none }).setCell T.heap.size (oc.setSlot i (.ref (T.heap.size + 1 + i)))) := by
    rintro f i U hi ⟨T', L, rfl, ⟨h1, h2, ⟨oc, o1, o2, o3, o4, o5⟩, h4⟩, hv, hu, hL, XT⟩
    refine ⟨h1, hv, hu, oc, o1, o2, o3, o4, ?_⟩
    have hlt : T.heap.size < T'.heap.size := by omega
    have o1' : (T'.pushCell { cls := cI, slots := Array.replicate M (.int 0), vm := .none }).heap[T.heap.size]? = some oc := by rw [State.heap_pushCell_of_lt (h := hlt)]; exact o1
    refine ⟨(T'.pushCell { cls := cI, slots := Array.replicate M (.int 0), vm := .none }).setCell T.heap.size (oc.setSlot i (.ref (T.heap.size + 1 + i))), L ++ [⟨T.heap.size, i⟩], by rw [State.pushCell_setTop, State.setCell_setTop], ⟨?_, fun q hq => ?_, ⟨_, State.heap_setCell_self o1', o2, o3, by rw [k2_slotsz]; exact o4, fun j hj => ?_⟩, fun j hj => ?_⟩, hv, ?_, ?_, ?_⟩
    · rw [size_setCell, size_pushCell]
      omega
    · rw [State.heap_setCell_other (show T.heap.size ≠ q by omega), State.heap_pushCell_of_lt (h := show q < T'.heap.size by omega)]
      exact h2 q hq
    · by_cases e : j = i
      · subst e
        exact Cell.slots_setSlot_self _ (by rw [o4]; exact hi)
      · rw [slot_ne _ _ (Ne.symm e)]
        exact o5 j (by omega)
    · rw [State.heap_setCell_other (show T.heap.size ≠ T.heap.size + 1 + j by omega)]
      by_cases e : j = i
      · subst e
        rw [← h1]
        exact State.heap_pushCell_size _ _
      · rw [State.heap_pushCell_of_lt (h := show T.heap.size + 1 + j < T'.heap.size by omega)]
        exact h4 j (by omega)
    · show (T'.pushCell _).slotsUsed = _
      simp [hu, Nat.succ_mul]
      omega
    · intro q hq
      rcases List.mem_append.mp hq with h | h
      · exact hL q h
      · rw [List.mem_singleton.mp h]
    · have h := (XT.pushed ({ cls := cI, slots := Array.replicate M (.int 0), vm := .none } : Cell)).stored o1' i (.ref (T.heap.size + 1 + i))
      have e1 : ({ cls := cI, slots := Array.replicate M (.int 0), vm := .none } : Cell).slots.size = M := by simp
      rw [e1] at h
      rw [← List.append_assoc, show slots + N + (i + 1) * M = slots + N + i * M + M by rw [Nat.succ_mul]; omega]
      exact h
  have invM : ∀ (f : JFrame) (i : Nat), i ≤ N → Inv f i (mmF cA cI N M ((T.setVm vm₁).setTop f) i) := by
    intro f i
    induction i with
    | zero => exact fun _ => inv0 f
    | succ i ih =>
      intro hi
      obtain ⟨u1, u2, u3, oc, o1, o2, o3, o4, hI'⟩ := inv1 f i _ (by omega) (ih (by omega))
      have e1 : (mmF cA cI N M ((T.setVm vm₁).setTop f) i).heap[((T.setVm vm₁).setTop f).heap.size]? = some oc := o1
      show Inv f (i + 1) (State.setCell _ _ _)
      rw [e1]
      exact hI'
  obtain ⟨T', L, hTF, hR', -, -, hL, XT0⟩ := invM { g with stack := rest } N (Nat.le_refl _)
  have XT : Stand p l e R s g.method args below meth c T' locs (cells + 1 + N) (slots + N + N * M) := XT0.forget (fun q hq => by rw [hL q hq]; exact X.same.2.1)
  have hmake : ∀ (f : JFrame) (E : CtlPost) (d : Bool) (acts : List Action) (Qa : Addr → Pre), (∀ d' acts', Qa T.heap.size d' acts' (mmF cA cI N M ((T.setVm vm₁).setTop f) N)) → wp (multianewarray.make cA [n, k]) Qa E e d acts ((T.setVm vm₁).setTop f) := by
    intro f E d acts Qa hQa
    have hfind : ([k].find? (· < 0)) = none := by simp [hk]
    rw [multianewarray.make]
    simp only [wp_bind', W.ite, hn, if_false, wp_pure', W.theClass, State.vm_setTop, State.vm_setVm, hkA₁, hkindA₁, Option.some.injEq, exists_eq_left', hN]
    refine mm_new (kA := kA₁) (comp := cI) (ty := .array .int) hkA₁ hkindA₁ (by rw [hlim]; omega) (by rw [hmax]; show N * 4 ≤ _; omega) rfl (by show T.heap.size < _; omega) (by show T.slotsUsed + N ≤ _; omega) (fun acts' => ?_)
    simp only [hfind]
    rw [ite_self, wp_bind', Std.Legacy.Range.forIn_eq_forIn_range']
    have hsz : ([:N] : Std.Legacy.Range).size = N := by simp [Std.Legacy.Range.size]
    rw [hsz]
    show wp (forIn (List.range' 0 N 1) PUnit.unit _) _ E e d acts' _
    refine wp_forIn_inv (fun rest U => ∃ i, i ≤ N ∧ rest = List.range' i (N - i) ∧ U = mmF cA cI N M ((T.setVm vm₁).setTop f) i) _ _ ⟨0, Nat.zero_le _, rfl, rfl⟩ ?_ ?_
    · rintro x rest U d' acts2 Q' ⟨i, hi, hl, rfl⟩ hnext
      have hlt : i < N := by
        rcases Nat.lt_or_ge i N with h | h
        · exact h
        · rw [show N - i = 0 by omega] at hl
          cases hl
      rw [show N - i = (N - (i + 1)) + 1 by omega, List.range'_succ] at hl
      obtain ⟨rfl, rfl⟩ := List.cons.inj hl
      obtain ⟨u1, u2, u3, oc, o1, o2, o3, o4, -⟩ := inv1 f x _ hlt (invM f x hi)
      have enext : mmF cA cI N M ((T.setVm vm₁).setTop f) (x + 1) = ((mmF cA cI N M ((T.setVm vm₁).setTop f) x).pushCell { cls := cI, slots := Array.replicate M (.int 0), vm := .none }).setCell T.heap.size (oc.setSlot x (.ref (T.heap.size + 1 + x))) := by
        have e1 : (mmF cA cI N M ((T.setVm vm₁).setTop f) x).heap[((T.setVm vm₁).setTop f).heap.size]? = some oc := o1
        show State.setCell _ _ _ = _
        rw [e1]
        rfl
      have hmul : x * M + M ≤ N * M := by
        have := Nat.mul_le_mul_right M (show x + 1 ≤ N from hlt)
        rw [Nat.succ_mul] at this
        exact this
      simp only [wp_bind']
      rw [multianewarray.make]
      simp only [wp_bind', W.ite, hk, if_false, wp_pure', W.theClass, u2, hkI₁, hkindI₁, Option.some.injEq, exists_eq_left', hM]
      refine mm_new (kA := kI₁) (comp := c2) (ty := .int) (by rw [u2]; exact hkI₁) hkindI₁ (by rw [hlim]; omega) (by rw [hmax]; show M * 4 ≤ _; omega) rfl (by rw [u1]; omega) (by rw [u3]; omega) (fun acts3 => ?_)
      simp only [wp_bind', W.writeLoc, wp_pure']
      rw [u1]
      refine ⟨oc, ?_, by rw [o3]; simp, by rw [o4]; exact hlt, ?_, hnext _ _ _ ⟨x + 1, hlt, rfl, enext.symm⟩⟩
      · show ((mmF cA cI N M ((T.setVm vm₁).setTop f) x).pushCell _).heap[T.heap.size]? = some oc
        rw [State.heap_pushCell_of_lt (h := show T.heap.size < (mmF cA cI N M ((T.setVm vm₁).setTop f) x).heap.size by omega)]
        exact o1
      · rw [o2, o3]
        simp [State.fitsSlot, State.slotType?, u2, hkA₁, hkindA₁, fits]
    · rintro U d' acts2 ⟨i, hi, hl, rfl⟩
      have hiN : i = N := by
        rcases Nat.lt_or_ge i N with h | h
        · rw [show N - i = (N - (i + 1)) + 1 by omega, List.range'_succ] at hl
          cases hl
        · omega
      subst hiN
      simp only [wp_pure']
      exact hQa _ _
  refine ⟨T', hR', XT, fun target hrest => ?_⟩
  jvm_step X.here [hexec, hdg]
  simp only [multianewarray.sem, wp_bind', W.resolveClassAt_links (State.method?_setTop g X.here.top) hg₁]
  rw [W.popN, if_neg (by decide)]
  refine ⟨g, State.topJava?_setTop' (s := T.setVm vm₁) g X.here.top, [.int n, .int k], rest, rfl, hstack, ?_⟩
  simp only [List.mapM_cons, List.mapM_nil, wp_bind', wp_pure']
  have eS : ((T.setTop g).setVm vm₁).setTop { g with stack := rest } = (T.setVm vm₁).setTop { g with stack := rest } := by
    show ((T.setVm vm₁).setTop g).setTop _ = _
    rw [State.setTop_setTop]
  rw [eS]
  refine hmake _ _ _ _ _ (fun d' acts' => ?_)
  rw [hTF]
  simp only [wp_bind', W.mark, W.pushRef, State.topJava?_setTop' _ XT.here.top, Option.some.injEq, exists_eq_left', State.setTop_setTop, State.heap_setTop]
  intro acts
  simp [jvm, XT.here.top]
  exact hrest
end MMS
end
section
/-! ===== making cells ===== -/
def gU (G : Nat → Option Nat) (q t : Nat) : Nat → Option Nat := fun x => if x = q then some t else G x
theorem gU_at {G : Nat → Option Nat} {q t : Nat} : gU G q t q = some t := if_pos rfl
theorem gU_ne {G : Nat → Option Nat} {q t x : Nat} (h : x ≠ q) : gU G q t x = G x := if_neg h
theorem gU_mono {G : Nat → Option Nat} {q t : Nat} (h : G q = none) : ∀ x u, G x = some u → gU G q t x = some u := by
  intro x u hx
  rw [gU_ne (fun e => by rw [e, h] at hx; cases hx)]
  exact hx
/-- what is typed lies below -/
def GB (G : Nat → Option Nat) (z : Nat) : Prop := ∀ q, z ≤ q → G q = none
theorem TY.gb {K : KE} {G : Nat → Option Nat} {H : Heap} (h : TY K G H) : GB G H.size := by
  intro q hq
  cases e : G q with
  | none => rfl
  | some t => exact absurd (h.lt e) (by omega)
/-- an object that isn't typed yet: class number, fields -/
def RAW (K : KE) (H : Heap) (a ci : Nat) (vs : List Value) : Prop := va_at K.1 vwCl (a, .inr (ci, vs)) H
theorem RAW.kept {K : KE} {H H1 : Heap} {a ci : Nat} {vs : List Value} (h : RAW K H a ci vs) (hq : H1[a]? = H[a]?) : RAW K H1 a ci vs := va_at.kept h hq
theorem RAW.lt {K : KE} {H : Heap} {a ci : Nat} {vs : List Value} (h : RAW K H a ci vs) : a < H.size := va_at.lt h
theorem TY.kept {K : KE} {G : Nat → Option Nat} {H H1 : Heap} (h : TY K G H) (hq : ∀ q t, G q = some t → H1[q]? = H[q]?) : TY K G H1 := by
  intro a t ha
  obtain ⟨σ, h1, h2⟩ := h a t ha
  exact ⟨σ, h1, h2.kept (hq a t ha)⟩
theorem TY.ext {K : KE} {G : Nat → Option Nat} {H : Heap} (h : TY K G H) {a t : Nat} {σ : SH} (hn : G a = none) (hs : rgT[t]? = some σ) (hc : CellOk K (gU G a t) H a σ) : TY K (gU G a t) H := by
  intro b u hb
  by_cases e : b = a
  · subst e
    rw [gU_at] at hb
    cases hb
    exact ⟨σ, hs, hc⟩
  · rw [gU_ne e] at hb
    obtain ⟨σ', h1, h2⟩ := h b u hb
    exact ⟨σ', h1, h2.mono (gU_mono hn)⟩
theorem x_born {K : KE} {G : Nat → Option Nat} {H : Heap} {a t ci N : Nat} {Cn : String} {T : u_T} {fs : List FT} {vs : List Value} (hT : TY K G H) (hn : G a = none) (hR : RAW K H a ci vs) (hc : vwCl[ci]? = some (Cn, T, N)) (hs : rgT[t]? = some (.inl (ci, fs))) (hl : fs.length = N) (hok : ∀ (k : Nat) (f : FT), fs[k]? = some f → ∃ v, vs[k]? = some v ∧ OkV (gU G a t) f v) : TY K (gU G a t) H := by
  refine hT.ext hn hs ?_
  obtain ⟨q, h1, cell, h2, h3, h4, h5⟩ := hR
  cases h1.symm.trans hc
  refine ⟨cell, h2, h3, h4, fun k f hk => ?_⟩
  obtain ⟨v, e1, e2⟩ := hok k f hk
  refine ⟨v, ?_, e2⟩
  have hkl : k < fs.length := (List.getElem?_eq_some_iff.mp hk).1
  rw [h5 k (by rw [← hl]; exact hkl)]
  simp [vp_V, e1]
section XN
variable {p : Program} {l : Launch} {e : Env} {R : Room} {s : State} {m : MethodId} {args : Array Value} {below : List Frame} {meth : Method} {c : Code} {H : Heap} {locs : List Loc} {cells slots : Nat} {Q : State → Prop}
variable {K : KE} {own nm : String} {b : ByteArray} {n : Nat} {r : Option FieldType} {pc : Nat} {ls : Array Slot} {rest st : List Value} {A A0 A1 : Nat → Prop} {H0 : Heap} {G : Nat → Option Nat} {post : Option Value → Heap → Prop} {mc ms : Nat}
theorem x_S1 {H1 : Heap} (hS : va_S A H0 H locs) (hz : H.size ≤ H1.size) (ho : ∀ x : Nat, x < H.size → H1[x]? = H[x]?) : va_S A H0 H1 locs :=
  ⟨Nat.le_trans hS.1 hz, fun q h1 h2 => (ho q (Nat.lt_of_lt_of_le h1 hS.1)).trans (hS.2.1 q h1 h2), hS.2.2⟩
theorem x_objInit (C : CX p K s m args meth c own b n r nm) {idx a : Nat} (hw : Cond.methodLink own idx objectInit ∈ okW) (hw2 : Cond.instanceMethod objectInit ∈ okW) (hw3 : Cond.code objectInit ⟨#[0xb1]⟩ 1 none ∈ okW) (hsz : ls.size = n) (hR : 1 ≤ R.frames ∧ (rest.map fun v => v.category).sum + 12 ≤ R.locals) (hd : decode b pc = .ok (.invokespecial idx, 3))
    (kk : W p l e R s m args below meth c H locs cells slots Q (F0 m (pc + 3) ls rest)) : W p l e R s m args below meth c H locs cells slots Q (F0 m pc ls (.ref a :: rest)) := by
  obtain ⟨hx, hb, hml, hown, hts, hK, hr, hlocks, hnm⟩ := C
  exact W.objInit hx hb hown (hts _ hw) (hts _ hw2) (hts _ hw3) rfl (by rw [hml]; exact hsz) rfl hd hR.1 (by show 2 * 0 + _ + 12 ≤ _; have := hR.2; omega) kk
/-- new int[N] -/
theorem x_newa (C : CX p K s m args meth c own b n r nm) (hT : TY K G H) (hS0 : va_S A H0 H locs) {t N : Nat} {lo hi : Int} {v : Int32} (hw : Cond.arrayClass .int ∈ okW) (hs : rgT[t]? = some (.inr (0, N, (0, lo, hi)))) (h0 : lo ≤ 0 ∧ 0 ≤ hi) (hv : v.toInt = N) (hN : N ≤ 100000) (hR : cells + 1 ≤ R.cells ∧ slots + N ≤ R.slots) (hd : decode b pc = .ok (.newarray .int, 2))
    (kk : ∀ H1 : Heap, TY K (gU G H.size t) H1 → va_S A H0 H1 locs → (∀ x : Nat, x < H.size → H1[x]? = H[x]?) → H1.size = H.size + 1 → (∀ j : Nat, fI H1 H.size j = 0) → W p l e R s m args below meth c H1 locs (cells + 1) (slots + N) Q (F0 m (pc + 2) ls (.ref H.size :: rest))) : W p l e R s m args below meth c H locs cells slots Q (F0 m pc ls (.int v :: rest)) := by
  obtain ⟨hx, hb, hml, hown, hts, hK, hr, hlocks, hnm⟩ := C
  have hv0 : ¬ v < 0 := by
    intro h
    have := Int32.lt_iff_toInt_lt.mp h
    have e0 : (0 : Int32).toInt = 0 := rfl
    omega
  have hvn : v.toNatClampNeg = N := by
    show v.toInt.toNat = N
    omega
  refine va_newaK (atype := .int) hx hb (hts (Cond.arrayClass .int) hw) rfl hd rfl hv0 hvn (by show N * 4 ≤ 536870912; omega) hR.1 hR.2 rfl fun H1 cA e1 z1 o1 hAr hNm => ?_
  have hcA : cA = K.2.1 0 := Option.some.inj (hNm.symm.trans (hK.1.2 0 _ rfl).2)
  subst hcA
  have hn : G H.size = none := hT.gb _ (Nat.le_refl _)
  have hT1 : TY K G H1 := hT.kept (fun q t hq => o1 q (hT.lt hq))
  refine kk H1 (hT1.ext hn hs ?_) (x_S1 hS0 (by omega) o1) o1 z1 (fun j => ?_)
  · refine ⟨_, e1, rfl, rfl, arrV_size _ _ _, fun j hj => ⟨.int 0, by rw [arrV_read _ _ hj]; rfl, 0, rfl, h0.1, h0.2⟩⟩
  · by_cases hj : j < N
    · exact fI_at e1 (by rw [arrV_read _ _ hj]; rfl)
    · unfold fI fV
      rw [e1]
      have : (arrV (K.2.1 0) N (fun _ => defaultValue (newarray.typeOf .int))).slots[j]? = none := Array.getElem?_eq_none (by rw [arrV_size]; omega)
      simp [this]
/-- new C: an object that isn't typed yet -/
theorem x_new (C : CX p K s m args meth c own b n r nm) (hT : TY K G H) (hS0 : va_S A H0 H locs) {idx ci N : Nat} {Cn : String} {T : u_T} {ty0 : Nat → FieldType} {vs : List Value} (hc : vwCl[ci]? = some (Cn, T, N)) (hin : ∀ w ∈ u_ws Cn T N, w ∈ okW) (hty : ∀ k, k < N → parseFieldDescriptor (T k).2.2.1 = some (ty0 k)) (hw : Cond.classLink own idx Cn ∈ okW) (hw2 : Cond.instantiable Cn N ∈ okW) (hw3 : Cond.initialized Cn ∈ okW) (hfs : ∀ j, j < N → defaultValue (ty0 j) = vp_V vs j) (hR : cells + 1 ≤ R.cells ∧ slots + N ≤ R.slots) (hd : decode b pc = .ok (.new idx, 3))
    (kk : ∀ H1 : Heap, RAW K H1 H.size ci vs → TY K G H1 → va_S A H0 H1 locs → (∀ x : Nat, x < H.size → H1[x]? = H[x]?) → H1.size = H.size + 1 → W p l e R s m args below meth c H1 locs (cells + 1) (slots + N) Q (F0 m (pc + 3) ls (.ref H.size :: rest))) : W p l e R s m args below meth c H locs cells slots Q (F0 m pc ls rest) := by
  obtain ⟨hx, hb, hml, hown, hts, hK, hr, hlocks, hnm⟩ := C
  have hKn := hK.1.1 ci _ hc
  refine W.newcK hx hb hown (hts _ hw) (hts _ hw2) (hts _ hw3) rfl hd hR.1 hR.2 hKn.2.1 rfl fun H1 kC hkC e1 z1 o1 => ?_
  exact kk H1 ⟨_, hc, (u_born ty0 hts hin hKn hkC e1 hty).to hfs⟩ (hT.kept (fun q t hq => o1 q (hT.lt hq))) (x_S1 hS0 (by omega) o1) o1 z1
theorem x_getR (C : CX p K s m args meth c own b n r nm) {ci k N idx a : Nat} {Cn : String} {T : u_T} {vs : List Value} {v : Value} (hR : RAW K H a ci vs) (hc : vwCl[ci]? = some (Cn, T, N)) (hin : ∀ w ∈ u_ws Cn T N, w ∈ okW) (hk : k < N) (hw : Cond.fieldLink own idx (T k).1 (T k).2.1 (T k).2.2.1 ∈ okW) (hv : vs[k]? = some v) (hd : decode b pc = .ok (.getfield idx, 3)) (kk : W p l e R s m args below meth c H locs cells slots Q (F0 m (pc + 3) ls (v :: rest))) : W p l e R s m args below meth c H locs cells slots Q (F0 m pc ls (.ref a :: rest)) := by
  obtain ⟨q, h1, cell, h2, h3, h4, h5⟩ := hR
  cases h1.symm.trans hc
  exact x_get C hc hin hk hw h2 h4 (by rw [h5 k hk]; simp [vp_V, hv]) hd kk
/-- a field of an object that isn't typed yet is written -/
theorem x_putR (C : CX p K s m args meth c own b n r nm) (hT : TY K G H) (hS0 : va_S A H0 H locs) {ci k N idx a : Nat} {Cn : String} {T : u_T} {ty0 : Nat → FieldType} {vs : List Value} {v : Value} (hR : RAW K H a ci vs) (hGa : G a = none) (hc : vwCl[ci]? = some (Cn, T, N)) (hin : ∀ w ∈ u_ws Cn T N, w ∈ okW) (hty : ∀ k, k < N → parseFieldDescriptor (T k).2.2.1 = some (ty0 k)) (hnm : ∀ a, a < N → ∀ b, b < N → a ≠ b → (T a).2.1 ≠ (T b).2.1) (hk : k < N) (hfin : (T k).2.2.2 = false ∨ ((T k).2.2.2 = true ∧ nm = "<init>" ∧ (T k).1 = own)) (hw : Cond.fieldLink own idx (T k).1 (T k).2.1 (T k).2.2.1 ∈ okW) (hl : k < vs.length) (hn1 : narrow (ty0 k) v = v) (hn2 : fits (ty0 k) v = true) (hA : A a) (hd : decode b pc = .ok (.putfield idx, 3))
    (kk : ∀ (H1 : Heap) (locs1 : List Loc), RAW K H1 a ci (vs.set k v) → TY K G H1 → va_S A H0 H1 locs1 → (∀ q : Nat, q ≠ a → H1[q]? = H[q]?) → H1.size = H.size → W p l e R s m args below meth c H1 locs1 cells slots Q (F0 m (pc + 3) ls rest)) : W p l e R s m args below meth c H locs cells slots Q (F0 m pc ls (v :: .ref a :: rest)) := by
  obtain ⟨hx, hb, hml, hown, hts, hK, hr, hlocks, hnm0⟩ := C
  have hap := x_apart hK hts hin ty0 hty hnm hc
  obtain ⟨q, h1, cell, h2, h3, h4, h5⟩ := hR
  cases h1.symm.trans hc
  obtain ⟨hS, hfc, kC, hkC, hkind⟩ := hK.1.1 ci _ hc
  obtain ⟨cf, kf, fi, fd, hi, hsl⟩ := hS k hk
  have hlay := hts _ (hin _ (u_in_lay hk))
  unfold u_lay at hlay
  have hst := (u_facts hfc hkC (u_lays hts hin hk) hi).1
  have key : ∀ H' : Heap, H'[a]? = some (cell.setSlot (K.1.2 ci k) v) → H'.size = H.size → (∀ q, q ≠ a → H'[q]? = H[q]?) → W p l e R s m args below meth c H' (locs ++ [⟨a, K.1.2 ci k⟩]) cells slots Q (F0 m (pc + 3) ls rest) := fun H' e1 e2 e3 =>
    kk H' _ ⟨_, hc, t_OB.to (V := updV (vp_V vs) k v) ⟨_, e1, h3, h4, t_set h5 hap hk v⟩ (fun j _ => vp_updV_set hl v j)⟩ (hT.kept (fun q t hq => e3 q (fun z => by rw [z, hGa] at hq; cases hq))) (hS0.put e2 e3 hA) e3 e2
  rcases hfin with hfin | ⟨hfin, hni, hdecl⟩
  · rw [if_neg (by rw [hfin]; decide)] at hlay
    have h6 := u_store hfc hkC hkind hlay hi (hty k hk) hn1 hn2
    refine W.putK hx hb (f := fd) ⟨hown, hts _ hw, ⟨_, _, _, hi⟩, hst⟩ (by rw [h3]; exact h6) h2 h4 (by rw [hsl]; exact k2_hasslot (h5 k hk)) rfl rfl hd fun H' e1 e2 e3 => ?_
    rw [hsl] at e1 ⊢
    exact key H' e1 e2 e3
  · rw [if_pos hfin] at hlay
    have hcf : m.cls = cf := by
      obtain ⟨_, _, c', _, _, _, -, -, hf', -, -, -, hown2, -⟩ := Cond.laysFinal_spec hlay
      have e1 : c' = cf := by have := hi.symm.trans hf'; simp at this; exact this.1.symm
      rw [hdecl] at hown2
      rw [← e1]; exact Option.some.inj (hown.symm.trans hown2)
    have h6 := u_fits hfc hkC hkind (Or.inr hlay) hi (hty k hk) hn1 hn2
    refine W.putFinK hx hb hown (hts _ hw) hi hst hcf (by rw [hnm0]; exact hni) (by rw [h3]; exact h6) h2 h4 (by rw [hsl]; exact k2_hasslot (h5 k hk)) rfl rfl hd fun H' e1 e2 e3 => ?_
    rw [hsl] at e1 ⊢
    exact key H' e1 e2 e3
/-- what the tables say of int[][] -/
theorem ao_spec {U : State} (h : ao_ok U) : ∃ (comp c : ClassId) (k : Class), U.vm.findClass (FieldType.array .int).toString = some comp ∧ U.vm.classes[c]? = some k ∧ k.kind = .array comp (.array .int) ∧ U.vm.findClass ("[" ++ (FieldType.array .int).toString) = some c := by
  unfold ao_ok at h
  simp only [Cond.before, Cond.holds, Cond.value, beq_iff_eq] at h
  obtain ⟨comp, hc, h⟩ := Option.bind_eq_some_iff.mp h
  obtain ⟨c, hi, h⟩ := Option.bind_eq_some_iff.mp h
  obtain ⟨k, hk, h⟩ := Option.map_eq_some_iff.mp h
  obtain ⟨hlt, hp, -⟩ := Array.findIdx?_eq_some_iff_getElem.mp hi
  have hkk : U.vm.classes[c] = k := (Array.getElem?_eq_some_iff.mp hk).2
  rw [hkk] at hp
  cases hkind : k.kind with
  | array component ty =>
    rw [hkind] at h hp
    simp at h hp
    exact ⟨comp, c, k, hc, hk, by rw [hkind, hp, h.1], h.2⟩
  | _ => rw [hkind] at h; simp at h
/-- new int[N][M] -/
def gM (G : Nat → Option Nat) (q N to' ti' : Nat) : Nat → Option Nat := fun x => if x = q then some to' else if q < x ∧ x ≤ q + N then some ti' else G x
theorem x_mna (C : CX p K s m args meth c own b n r nm) (hT : TY K G H) (hS0 : va_S A H0 H locs) {idx tu tv N M : Nat} {lo hi bb : Int} {v w : Int32} (hw : Cond.arrayClass .int ∈ okW) (hwc : Cond.classLink own idx ("[" ++ (FieldType.array .int).toString) ∈ okW) (hs : rgT[tu]? = some (.inr (3, N, (2, (tv : Int), bb)))) (hs2 : rgT[tv]? = some (.inr (0, M, (0, lo, hi)))) (h0 : lo ≤ 0 ∧ 0 ≤ hi) (hv : v.toInt = N) (hwv : w.toInt = M) (hN : N ≤ 10000) (hM : M ≤ 10000) (hR : cells + (1 + N) ≤ R.cells ∧ slots + (N + N * M) ≤ R.slots) (hd : decode b pc = .ok (.multianewarray idx 2, 4))
    (kk : ∀ H1 : Heap, TY K (gM G H.size N tu tv) H1 → va_S A H0 H1 locs → (∀ x : Nat, x < H.size → H1[x]? = H[x]?) → H1.size = H.size + 1 + N → W p l e R s m args below meth c H1 locs (cells + 1 + N) (slots + N + N * M) Q (F0 m (pc + 4) ls (.ref H.size :: rest))) : W p l e R s m args below meth c H locs cells slots Q (F0 m pc ls (.int w :: .int v :: rest)) := by
  obtain ⟨hx, hb, hml, hown, hts, hK, hr, hlocks, hnm⟩ := C
  have e0 : (0 : Int32).toInt = 0 := rfl
  have hv0 : ¬ v < 0 := by intro h; have := Int32.lt_iff_toInt_lt.mp h; omega
  have hw0 : ¬ w < 0 := by intro h; have := Int32.lt_iff_toInt_lt.mp h; omega
  have hvn : v.toNatClampNeg = N := by show v.toInt.toNat = N; omega
  have hwn : w.toNatClampNeg = M := by show w.toInt.toNat = M; omega
  intro T hTh Xs
  obtain ⟨-, kA, hkA, comp, hkindA⟩ := (hK.1.2 3 _ rfl).1 0 (fun _ => .null)
  obtain ⟨-, kI, hkI, c2, hkindI⟩ := (hK.1.2 0 _ rfl).1 0 (fun _ => .null)
  have fA := (hK.1.2 3 _ rfl).2
  have fI0 : s.vm.findClass (FieldType.array .int).toString = some (K.2.1 0) := (hK.1.2 0 _ rfl).2
  have hcomp : comp = K.2.1 0 := by
    obtain ⟨cp, cA', kA', g1, g2, g3, g4⟩ := ao_spec hK.2.2.2.2
    cases fA.symm.trans g4
    cases hkA.symm.trans g2
    have : comp = cp := by rw [hkindA] at g3; cases g3; rfl
    rw [this]
    exact Option.some.inj (g1.symm.trans fI0)
  subst hcomp
  obtain ⟨T', hmm, X', step⟩ := mm_step Xs hx hown (hts _ hwc) fA hkA hkindA hkI hkindI (g := F0 m pc ls (.int w :: .int v :: rest)) rfl (by rw [hb]; exact hd) rfl hv0 hw0 hvn hwn hN hM hR.1 hR.2
  rw [hTh] at hmm
  obtain ⟨f1, hold, ⟨oc, f2, oc1, oc2, oc3, hslot⟩, hrow⟩ := hmm
  have hTY : TY K (gM G H.size N tu tv) T'.heap := by
    have hmono : ∀ x u, G x = some u → gM G H.size N tu tv x = some u := by
      intro x u hx
      have := hT.lt hx
      show (if x = H.size then _ else if H.size < x ∧ x ≤ H.size + N then _ else G x) = _
      rw [if_neg (by omega), if_neg (by omega)]
      exact hx
    intro a t ha
    by_cases e1 : a = H.size
    · subst e1
      have : gM G H.size N tu tv H.size = some tu := if_pos rfl
      rw [this] at ha
      cases ha
      refine ⟨_, hs, _, f2, oc1, oc2, oc3, fun j hj => ⟨_, hslot j hj, H.size + 1 + j, rfl, ?_⟩⟩
      show (if H.size + 1 + j = H.size then _ else if H.size < H.size + 1 + j ∧ H.size + 1 + j ≤ H.size + N then some tv else G _) = some (Int.toNat (tv : Int))
      have hj' : j < N := hj
      rw [if_neg (by omega), if_pos (by omega)]
      rfl
    · by_cases e2 : H.size < a ∧ a ≤ H.size + N
      · have : gM G H.size N tu tv a = some tv := by
          show (if a = H.size then _ else if H.size < a ∧ a ≤ H.size + N then _ else G a) = _
          rw [if_neg e1, if_pos e2]
        rw [this] at ha
        cases ha
        have hr2 := hrow (a - H.size - 1) (by omega)
        rw [show H.size + 1 + (a - H.size - 1) = a by omega] at hr2
        refine ⟨_, hs2, _, hr2, rfl, rfl, by simp, fun j hj => ⟨.int 0, by simp [hj], 0, rfl, h0.1, h0.2⟩⟩
      · have : gM G H.size N tu tv a = G a := by
          show (if a = H.size then _ else if H.size < a ∧ a ≤ H.size + N then _ else G a) = _
          rw [if_neg e1, if_neg e2]
        rw [this] at ha
        obtain ⟨σ, h1, h2⟩ := hT a t ha
        exact ⟨σ, h1, (h2.kept (hold a (hT.lt ha))).mono hmono⟩
  obtain ⟨t, a1, b1⟩ := kk T'.heap hTY (x_S1 hS0 (by omega) hold) hold f1 T' rfl X'
  refine ⟨t, step t ?_, b1⟩
  have ee : T.heap.size = H.size := by rw [hTh]
  rw [ee]
  exact a1
end XN
end
