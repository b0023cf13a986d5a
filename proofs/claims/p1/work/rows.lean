section
-- ===== PART A: goes FIRST, ahead of the names: the tables' words, and 'selects' of the private methods out of them =====
/-- a private method of a class that the tables say can be made, by its rows of tables_1 -/
def lw_okq (q : MethodName × Nat) : Prop := (q.1.cls ≠ "java/lang/invoke/MethodHandle" ∧ q.1.cls ≠ "java/lang/invoke/VarHandle") ∧ Cond.instantiable q.1.cls q.2 ∈ tables_1 ∧ Cond.privateMethod q.1 ∈ tables_1 ∧ Cond.instanceMethod q.1 ∈ tables_1
theorem lw_p0 : lw_okq (⟨"RingBars", "barAt", "(I)LRingBars$Bar;"⟩, 12) := ⟨⟨by decide +kernel, by decide +kernel⟩, List.mem_of_getElem? (i := 20) (by decide +kernel), List.mem_of_getElem? (i := 488) (by decide +kernel), List.mem_of_getElem? (i := 489) (by decide +kernel)⟩
theorem lw_p1 : lw_okq (⟨"RingBars", "addBytes", "(I)V"⟩, 12) := ⟨⟨by decide +kernel, by decide +kernel⟩, List.mem_of_getElem? (i := 20) (by decide +kernel), List.mem_of_getElem? (i := 511) (by decide +kernel), List.mem_of_getElem? (i := 512) (by decide +kernel)⟩
theorem lw_p2 : lw_okq (⟨"RingBars", "textAt", "(II)LRingBars$Text;"⟩, 12) := ⟨⟨by decide +kernel, by decide +kernel⟩, List.mem_of_getElem? (i := 20) (by decide +kernel), List.mem_of_getElem? (i := 523) (by decide +kernel), List.mem_of_getElem? (i := 524) (by decide +kernel)⟩
theorem lw_p3 : lw_okq (⟨"RingBars$Reader", "addToken", "(III)V"⟩, 9) := ⟨⟨by decide +kernel, by decide +kernel⟩, List.mem_of_getElem? (i := 270) (by decide +kernel), List.mem_of_getElem? (i := 585) (by decide +kernel), List.mem_of_getElem? (i := 586) (by decide +kernel)⟩
theorem lw_p4 : lw_okq (⟨"RingBars$Reader", "refuse", "(I)Z"⟩, 9) := ⟨⟨by decide +kernel, by decide +kernel⟩, List.mem_of_getElem? (i := 270) (by decide +kernel), List.mem_of_getElem? (i := 606) (by decide +kernel), List.mem_of_getElem? (i := 607) (by decide +kernel)⟩
theorem lw_p5 : lw_okq (⟨"RingBars$Reader", "lawHead", "(II)Z"⟩, 9) := ⟨⟨by decide +kernel, by decide +kernel⟩, List.mem_of_getElem? (i := 270) (by decide +kernel), List.mem_of_getElem? (i := 610) (by decide +kernel), List.mem_of_getElem? (i := 611) (by decide +kernel)⟩
theorem lw_p6 : lw_okq (⟨"RingBars$Reader", "number", "(II)Z"⟩, 9) := ⟨⟨by decide +kernel, by decide +kernel⟩, List.mem_of_getElem? (i := 270) (by decide +kernel), List.mem_of_getElem? (i := 614) (by decide +kernel), List.mem_of_getElem? (i := 615) (by decide +kernel)⟩
theorem lw_p7 : lw_okq (⟨"RingBars$Reader", "sum", "()Z"⟩, 9) := ⟨⟨by decide +kernel, by decide +kernel⟩, List.mem_of_getElem? (i := 270) (by decide +kernel), List.mem_of_getElem? (i := 618) (by decide +kernel), List.mem_of_getElem? (i := 619) (by decide +kernel)⟩
theorem lw_p8 : lw_okq (⟨"RingBars$Reader", "term", "()Z"⟩, 9) := ⟨⟨by decide +kernel, by decide +kernel⟩, List.mem_of_getElem? (i := 270) (by decide +kernel), List.mem_of_getElem? (i := 622) (by decide +kernel), List.mem_of_getElem? (i := 623) (by decide +kernel)⟩
theorem lw_p9 : lw_okq (⟨"RingBars$Reader", "isUnit", "(I)Z"⟩, 9) := ⟨⟨by decide +kernel, by decide +kernel⟩, List.mem_of_getElem? (i := 270) (by decide +kernel), List.mem_of_getElem? (i := 626) (by decide +kernel), List.mem_of_getElem? (i := 627) (by decide +kernel)⟩
theorem lw_p10 : lw_okq (⟨"RingBars$Reader", "jobHead", "(II)Z"⟩, 9) := ⟨⟨by decide +kernel, by decide +kernel⟩, List.mem_of_getElem? (i := 270) (by decide +kernel), List.mem_of_getElem? (i := 635) (by decide +kernel), List.mem_of_getElem? (i := 636) (by decide +kernel)⟩
theorem lw_p11 : lw_okq (⟨"RingBars$Reader", "either", "(I)Z"⟩, 9) := ⟨⟨by decide +kernel, by decide +kernel⟩, List.mem_of_getElem? (i := 270) (by decide +kernel), List.mem_of_getElem? (i := 639) (by decide +kernel), List.mem_of_getElem? (i := 640) (by decide +kernel)⟩
theorem lw_p12 : lw_okq (⟨"RingBars$Reader", "both", "(I)Z"⟩, 9) := ⟨⟨by decide +kernel, by decide +kernel⟩, List.mem_of_getElem? (i := 270) (by decide +kernel), List.mem_of_getElem? (i := 643) (by decide +kernel), List.mem_of_getElem? (i := 644) (by decide +kernel)⟩
theorem lw_p13 : lw_okq (⟨"RingBars$Reader", "part", "(I)Z"⟩, 9) := ⟨⟨by decide +kernel, by decide +kernel⟩, List.mem_of_getElem? (i := 270) (by decide +kernel), List.mem_of_getElem? (i := 647) (by decide +kernel), List.mem_of_getElem? (i := 648) (by decide +kernel)⟩
theorem lw_p14 : lw_okq (⟨"RingBars$Reader", "opened", "(II)Z"⟩, 9) := ⟨⟨by decide +kernel, by decide +kernel⟩, List.mem_of_getElem? (i := 270) (by decide +kernel), List.mem_of_getElem? (i := 651) (by decide +kernel), List.mem_of_getElem? (i := 652) (by decide +kernel)⟩
theorem lw_p15 : lw_okq (⟨"RingBars", "toneNow", "(LRingBars$Bar;I)I"⟩, 12) := ⟨⟨by decide +kernel, by decide +kernel⟩, List.mem_of_getElem? (i := 20) (by decide +kernel), List.mem_of_getElem? (i := 713) (by decide +kernel), List.mem_of_getElem? (i := 714) (by decide +kernel)⟩
def lw_privs_1 : List (MethodName × Nat) := [(⟨"RingBars", "barAt", "(I)LRingBars$Bar;"⟩, 12), (⟨"RingBars", "addBytes", "(I)V"⟩, 12), (⟨"RingBars", "textAt", "(II)LRingBars$Text;"⟩, 12), (⟨"RingBars$Reader", "addToken", "(III)V"⟩, 9), (⟨"RingBars$Reader", "refuse", "(I)Z"⟩, 9), (⟨"RingBars$Reader", "lawHead", "(II)Z"⟩, 9), (⟨"RingBars$Reader", "number", "(II)Z"⟩, 9), (⟨"RingBars$Reader", "sum", "()Z"⟩, 9), (⟨"RingBars$Reader", "term", "()Z"⟩, 9), (⟨"RingBars$Reader", "isUnit", "(I)Z"⟩, 9), (⟨"RingBars$Reader", "jobHead", "(II)Z"⟩, 9), (⟨"RingBars$Reader", "either", "(I)Z"⟩, 9), (⟨"RingBars$Reader", "both", "(I)Z"⟩, 9), (⟨"RingBars$Reader", "part", "(I)Z"⟩, 9), (⟨"RingBars$Reader", "opened", "(II)Z"⟩, 9), (⟨"RingBars", "toneNow", "(LRingBars$Bar;I)I"⟩, 12)]
theorem lw_r1 : ∀ q ∈ lw_privs_1, lw_okq q := List.forall_mem_cons.mpr ⟨lw_p0, List.forall_mem_cons.mpr ⟨lw_p1, List.forall_mem_cons.mpr ⟨lw_p2, List.forall_mem_cons.mpr ⟨lw_p3, List.forall_mem_cons.mpr ⟨lw_p4, List.forall_mem_cons.mpr ⟨lw_p5, List.forall_mem_cons.mpr ⟨lw_p6, List.forall_mem_cons.mpr ⟨lw_p7, List.forall_mem_cons.mpr ⟨lw_p8, List.forall_mem_cons.mpr ⟨lw_p9, List.forall_mem_cons.mpr ⟨lw_p10, List.forall_mem_cons.mpr ⟨lw_p11, List.forall_mem_cons.mpr ⟨lw_p12, List.forall_mem_cons.mpr ⟨lw_p13, List.forall_mem_cons.mpr ⟨lw_p14, List.forall_mem_cons.mpr ⟨lw_p15, fun _ h => absurd h List.not_mem_nil⟩⟩⟩⟩⟩⟩⟩⟩⟩⟩⟩⟩⟩⟩⟩⟩
theorem lw_p16 : lw_okq (⟨"RingBars", "takeOff", "(LRingBars$Bar;II)I"⟩, 12) := ⟨⟨by decide +kernel, by decide +kernel⟩, List.mem_of_getElem? (i := 20) (by decide +kernel), List.mem_of_getElem? (i := 735) (by decide +kernel), List.mem_of_getElem? (i := 736) (by decide +kernel)⟩
theorem lw_p17 : lw_okq (⟨"RingBars", "isLost", "(LRingBars$Bar;)Z"⟩, 12) := ⟨⟨by decide +kernel, by decide +kernel⟩, List.mem_of_getElem? (i := 20) (by decide +kernel), List.mem_of_getElem? (i := 739) (by decide +kernel), List.mem_of_getElem? (i := 740) (by decide +kernel)⟩
theorem lw_p18 : lw_okq (⟨"RingBars", "isTrue", "(LRingBars$Bar;)Z"⟩, 12) := ⟨⟨by decide +kernel, by decide +kernel⟩, List.mem_of_getElem? (i := 20) (by decide +kernel), List.mem_of_getElem? (i := 760) (by decide +kernel), List.mem_of_getElem? (i := 761) (by decide +kernel)⟩
theorem lw_p19 : lw_okq (⟨"RingBars", "amiss", "(LRingBars$Bar;)I"⟩, 12) := ⟨⟨by decide +kernel, by decide +kernel⟩, List.mem_of_getElem? (i := 20) (by decide +kernel), List.mem_of_getElem? (i := 765) (by decide +kernel), List.mem_of_getElem? (i := 766) (by decide +kernel)⟩
theorem lw_p20 : lw_okq (⟨"RingBars", "findPoints", "(LRingBars$Bar;I)I"⟩, 12) := ⟨⟨by decide +kernel, by decide +kernel⟩, List.mem_of_getElem? (i := 20) (by decide +kernel), List.mem_of_getElem? (i := 769) (by decide +kernel), List.mem_of_getElem? (i := 770) (by decide +kernel)⟩
theorem lw_p21 : lw_okq (⟨"RingBars", "comesTrue", "(LRingBars$Text;ILRingBars$Bar;)Z"⟩, 12) := ⟨⟨by decide +kernel, by decide +kernel⟩, List.mem_of_getElem? (i := 20) (by decide +kernel), List.mem_of_getElem? (i := 787) (by decide +kernel), List.mem_of_getElem? (i := 788) (by decide +kernel)⟩
theorem lw_p22 : lw_okq (⟨"RingBars", "doLine", "(LRingBars$Text;ILRingBars$Bar;)V"⟩, 12) := ⟨⟨by decide +kernel, by decide +kernel⟩, List.mem_of_getElem? (i := 20) (by decide +kernel), List.mem_of_getElem? (i := 797) (by decide +kernel), List.mem_of_getElem? (i := 798) (by decide +kernel)⟩
theorem lw_p23 : lw_okq (⟨"RingBars$PassSearch", "fill", "(LRingBars$Sums;LRingBars$Text;II)V"⟩, 12) := ⟨⟨by decide +kernel, by decide +kernel⟩, List.mem_of_getElem? (i := 322) (by decide +kernel), List.mem_of_getElem? (i := 812) (by decide +kernel), List.mem_of_getElem? (i := 813) (by decide +kernel)⟩
theorem lw_p24 : lw_okq (⟨"RingBars$PassSearch", "isTrueNow", "()Z"⟩, 12) := ⟨⟨by decide +kernel, by decide +kernel⟩, List.mem_of_getElem? (i := 322) (by decide +kernel), List.mem_of_getElem? (i := 824) (by decide +kernel), List.mem_of_getElem? (i := 825) (by decide +kernel)⟩
theorem lw_p25 : lw_okq (⟨"RingBars$PassSearch", "isNear", "(IIIZ)Z"⟩, 12) := ⟨⟨by decide +kernel, by decide +kernel⟩, List.mem_of_getElem? (i := 322) (by decide +kernel), List.mem_of_getElem? (i := 828) (by decide +kernel), List.mem_of_getElem? (i := 829) (by decide +kernel)⟩
theorem lw_p26 : lw_okq (⟨"RingBars$PassSearch", "goOn", "(II)Z"⟩, 12) := ⟨⟨by decide +kernel, by decide +kernel⟩, List.mem_of_getElem? (i := 322) (by decide +kernel), List.mem_of_getElem? (i := 838) (by decide +kernel), List.mem_of_getElem? (i := 839) (by decide +kernel)⟩
theorem lw_p27 : lw_okq (⟨"RingBars$PassSearch", "isNearBehind", "(IZ)Z"⟩, 12) := ⟨⟨by decide +kernel, by decide +kernel⟩, List.mem_of_getElem? (i := 322) (by decide +kernel), List.mem_of_getElem? (i := 842) (by decide +kernel), List.mem_of_getElem? (i := 843) (by decide +kernel)⟩
theorem lw_p28 : lw_okq (⟨"RingBars$PassSearch", "isReached", "(III)Z"⟩, 12) := ⟨⟨by decide +kernel, by decide +kernel⟩, List.mem_of_getElem? (i := 322) (by decide +kernel), List.mem_of_getElem? (i := 846) (by decide +kernel), List.mem_of_getElem? (i := 847) (by decide +kernel)⟩
theorem lw_p29 : lw_okq (⟨"RingBars$PassSearch", "move", "(II)V"⟩, 12) := ⟨⟨by decide +kernel, by decide +kernel⟩, List.mem_of_getElem? (i := 322) (by decide +kernel), List.mem_of_getElem? (i := 850) (by decide +kernel), List.mem_of_getElem? (i := 851) (by decide +kernel)⟩
theorem lw_p30 : lw_okq (⟨"RingBars$GrainSearch", "fill", "(LRingBars$Sums;LRingBars$Text;LRingBars$Bar;II[I[I)V"⟩, 8) := ⟨⟨by decide +kernel, by decide +kernel⟩, List.mem_of_getElem? (i := 380) (by decide +kernel), List.mem_of_getElem? (i := 879) (by decide +kernel), List.mem_of_getElem? (i := 880) (by decide +kernel)⟩
theorem lw_p31 : lw_okq (⟨"RingBars$GrainSearch", "unfold", "(I)V"⟩, 8) := ⟨⟨by decide +kernel, by decide +kernel⟩, List.mem_of_getElem? (i := 380) (by decide +kernel), List.mem_of_getElem? (i := 888) (by decide +kernel), List.mem_of_getElem? (i := 889) (by decide +kernel)⟩
def lw_privs_2 : List (MethodName × Nat) := [(⟨"RingBars", "takeOff", "(LRingBars$Bar;II)I"⟩, 12), (⟨"RingBars", "isLost", "(LRingBars$Bar;)Z"⟩, 12), (⟨"RingBars", "isTrue", "(LRingBars$Bar;)Z"⟩, 12), (⟨"RingBars", "amiss", "(LRingBars$Bar;)I"⟩, 12), (⟨"RingBars", "findPoints", "(LRingBars$Bar;I)I"⟩, 12), (⟨"RingBars", "comesTrue", "(LRingBars$Text;ILRingBars$Bar;)Z"⟩, 12), (⟨"RingBars", "doLine", "(LRingBars$Text;ILRingBars$Bar;)V"⟩, 12), (⟨"RingBars$PassSearch", "fill", "(LRingBars$Sums;LRingBars$Text;II)V"⟩, 12), (⟨"RingBars$PassSearch", "isTrueNow", "()Z"⟩, 12), (⟨"RingBars$PassSearch", "isNear", "(IIIZ)Z"⟩, 12), (⟨"RingBars$PassSearch", "goOn", "(II)Z"⟩, 12), (⟨"RingBars$PassSearch", "isNearBehind", "(IZ)Z"⟩, 12), (⟨"RingBars$PassSearch", "isReached", "(III)Z"⟩, 12), (⟨"RingBars$PassSearch", "move", "(II)V"⟩, 12), (⟨"RingBars$GrainSearch", "fill", "(LRingBars$Sums;LRingBars$Text;LRingBars$Bar;II[I[I)V"⟩, 8), (⟨"RingBars$GrainSearch", "unfold", "(I)V"⟩, 8)]
theorem lw_r2 : ∀ q ∈ lw_privs_2, lw_okq q := List.forall_mem_cons.mpr ⟨lw_p16, List.forall_mem_cons.mpr ⟨lw_p17, List.forall_mem_cons.mpr ⟨lw_p18, List.forall_mem_cons.mpr ⟨lw_p19, List.forall_mem_cons.mpr ⟨lw_p20, List.forall_mem_cons.mpr ⟨lw_p21, List.forall_mem_cons.mpr ⟨lw_p22, List.forall_mem_cons.mpr ⟨lw_p23, List.forall_mem_cons.mpr ⟨lw_p24, List.forall_mem_cons.mpr ⟨lw_p25, List.forall_mem_cons.mpr ⟨lw_p26, List.forall_mem_cons.mpr ⟨lw_p27, List.forall_mem_cons.mpr ⟨lw_p28, List.forall_mem_cons.mpr ⟨lw_p29, List.forall_mem_cons.mpr ⟨lw_p30, List.forall_mem_cons.mpr ⟨lw_p31, fun _ h => absurd h List.not_mem_nil⟩⟩⟩⟩⟩⟩⟩⟩⟩⟩⟩⟩⟩⟩⟩⟩
theorem lw_p32 : lw_okq (⟨"RingBars$GrainSearch", "isHeard", "(LRingBars$Bar;I)Z"⟩, 8) := ⟨⟨by decide +kernel, by decide +kernel⟩, List.mem_of_getElem? (i := 380) (by decide +kernel), List.mem_of_getElem? (i := 892) (by decide +kernel), List.mem_of_getElem? (i := 893) (by decide +kernel)⟩
theorem lw_p33 : lw_okq (⟨"RingBars$GrainSearch", "toneAt", "(LRingBars$Bar;I)I"⟩, 8) := ⟨⟨by decide +kernel, by decide +kernel⟩, List.mem_of_getElem? (i := 380) (by decide +kernel), List.mem_of_getElem? (i := 896) (by decide +kernel), List.mem_of_getElem? (i := 897) (by decide +kernel)⟩
theorem lw_p34 : lw_okq (⟨"RingBars$GrainSearch", "countUnlike", "(LRingBars$Sums;LRingBars$Text;LRingBars$Bar;I)I"⟩, 8) := ⟨⟨by decide +kernel, by decide +kernel⟩, List.mem_of_getElem? (i := 380) (by decide +kernel), List.mem_of_getElem? (i := 906) (by decide +kernel), List.mem_of_getElem? (i := 907) (by decide +kernel)⟩
theorem lw_p35 : lw_okq (⟨"RingBars", "offOf", "(LRingBars$Text;)I"⟩, 12) := ⟨⟨by decide +kernel, by decide +kernel⟩, List.mem_of_getElem? (i := 20) (by decide +kernel), List.mem_of_getElem? (i := 921) (by decide +kernel), List.mem_of_getElem? (i := 922) (by decide +kernel)⟩
theorem lw_p36 : lw_okq (⟨"RingBars", "driftIn", "(II)I"⟩, 12) := ⟨⟨by decide +kernel, by decide +kernel⟩, List.mem_of_getElem? (i := 20) (by decide +kernel), List.mem_of_getElem? (i := 948) (by decide +kernel), List.mem_of_getElem? (i := 949) (by decide +kernel)⟩
theorem lw_p37 : lw_okq (⟨"RingBars", "fillLowTones", "()V"⟩, 12) := ⟨⟨by decide +kernel, by decide +kernel⟩, List.mem_of_getElem? (i := 20) (by decide +kernel), List.mem_of_getElem? (i := 984) (by decide +kernel), List.mem_of_getElem? (i := 985) (by decide +kernel)⟩
theorem lw_p38 : lw_okq (⟨"RingBars", "apart", "()I"⟩, 12) := ⟨⟨by decide +kernel, by decide +kernel⟩, List.mem_of_getElem? (i := 20) (by decide +kernel), List.mem_of_getElem? (i := 988) (by decide +kernel), List.mem_of_getElem? (i := 989) (by decide +kernel)⟩
theorem lw_p39 : lw_okq (⟨"RingBars", "suiting", "(I)I"⟩, 12) := ⟨⟨by decide +kernel, by decide +kernel⟩, List.mem_of_getElem? (i := 20) (by decide +kernel), List.mem_of_getElem? (i := 992) (by decide +kernel), List.mem_of_getElem? (i := 993) (by decide +kernel)⟩
theorem lw_p40 : lw_okq (⟨"RingBars", "worst", "(II)I"⟩, 12) := ⟨⟨by decide +kernel, by decide +kernel⟩, List.mem_of_getElem? (i := 20) (by decide +kernel), List.mem_of_getElem? (i := 996) (by decide +kernel), List.mem_of_getElem? (i := 997) (by decide +kernel)⟩
theorem lw_p41 : lw_okq (⟨"RingBars", "beatIn", "(IIII)I"⟩, 12) := ⟨⟨by decide +kernel, by decide +kernel⟩, List.mem_of_getElem? (i := 20) (by decide +kernel), List.mem_of_getElem? (i := 1000) (by decide +kernel), List.mem_of_getElem? (i := 1001) (by decide +kernel)⟩
theorem lw_p42 : lw_okq (⟨"RingBars", "together", "(I)I"⟩, 12) := ⟨⟨by decide +kernel, by decide +kernel⟩, List.mem_of_getElem? (i := 20) (by decide +kernel), List.mem_of_getElem? (i := 1004) (by decide +kernel), List.mem_of_getElem? (i := 1005) (by decide +kernel)⟩
theorem lw_p43 : lw_okq (⟨"RingBars$SetSearch", "goOn", "(LRingBars$World;III)V"⟩, 5) := ⟨⟨by decide +kernel, by decide +kernel⟩, List.mem_of_getElem? (i := 413) (by decide +kernel), List.mem_of_getElem? (i := 1028) (by decide +kernel), List.mem_of_getElem? (i := 1029) (by decide +kernel)⟩
theorem lw_p44 : lw_okq (⟨"RingBars$SetSearch", "ringsTogether", "(LRingBars$World;II)Z"⟩, 5) := ⟨⟨by decide +kernel, by decide +kernel⟩, List.mem_of_getElem? (i := 413) (by decide +kernel), List.mem_of_getElem? (i := 1033) (by decide +kernel), List.mem_of_getElem? (i := 1034) (by decide +kernel)⟩
theorem lw_p45 : lw_okq (⟨"RingBars", "countLost", "()I"⟩, 12) := ⟨⟨by decide +kernel, by decide +kernel⟩, List.mem_of_getElem? (i := 20) (by decide +kernel), List.mem_of_getElem? (i := 1069) (by decide +kernel), List.mem_of_getElem? (i := 1070) (by decide +kernel)⟩
theorem lw_p46 : lw_okq (⟨"RingBars", "countTrue", "()I"⟩, 12) := ⟨⟨by decide +kernel, by decide +kernel⟩, List.mem_of_getElem? (i := 20) (by decide +kernel), List.mem_of_getElem? (i := 1073) (by decide +kernel), List.mem_of_getElem? (i := 1074) (by decide +kernel)⟩
theorem lw_p47 : lw_okq (⟨"RingBarsModel", "isIn", "(III)Z"⟩, 74) := ⟨⟨by decide +kernel, by decide +kernel⟩, List.mem_of_getElem? (i := 1077) (by decide +kernel), List.mem_of_getElem? (i := 1310) (by decide +kernel), List.mem_of_getElem? (i := 1311) (by decide +kernel)⟩
def lw_privs_3 : List (MethodName × Nat) := [(⟨"RingBars$GrainSearch", "isHeard", "(LRingBars$Bar;I)Z"⟩, 8), (⟨"RingBars$GrainSearch", "toneAt", "(LRingBars$Bar;I)I"⟩, 8), (⟨"RingBars$GrainSearch", "countUnlike", "(LRingBars$Sums;LRingBars$Text;LRingBars$Bar;I)I"⟩, 8), (⟨"RingBars", "offOf", "(LRingBars$Text;)I"⟩, 12), (⟨"RingBars", "driftIn", "(II)I"⟩, 12), (⟨"RingBars", "fillLowTones", "()V"⟩, 12), (⟨"RingBars", "apart", "()I"⟩, 12), (⟨"RingBars", "suiting", "(I)I"⟩, 12), (⟨"RingBars", "worst", "(II)I"⟩, 12), (⟨"RingBars", "beatIn", "(IIII)I"⟩, 12), (⟨"RingBars", "together", "(I)I"⟩, 12), (⟨"RingBars$SetSearch", "goOn", "(LRingBars$World;III)V"⟩, 5), (⟨"RingBars$SetSearch", "ringsTogether", "(LRingBars$World;II)Z"⟩, 5), (⟨"RingBars", "countLost", "()I"⟩, 12), (⟨"RingBars", "countTrue", "()I"⟩, 12), (⟨"RingBarsModel", "isIn", "(III)Z"⟩, 74)]
theorem lw_r3 : ∀ q ∈ lw_privs_3, lw_okq q := List.forall_mem_cons.mpr ⟨lw_p32, List.forall_mem_cons.mpr ⟨lw_p33, List.forall_mem_cons.mpr ⟨lw_p34, List.forall_mem_cons.mpr ⟨lw_p35, List.forall_mem_cons.mpr ⟨lw_p36, List.forall_mem_cons.mpr ⟨lw_p37, List.forall_mem_cons.mpr ⟨lw_p38, List.forall_mem_cons.mpr ⟨lw_p39, List.forall_mem_cons.mpr ⟨lw_p40, List.forall_mem_cons.mpr ⟨lw_p41, List.forall_mem_cons.mpr ⟨lw_p42, List.forall_mem_cons.mpr ⟨lw_p43, List.forall_mem_cons.mpr ⟨lw_p44, List.forall_mem_cons.mpr ⟨lw_p45, List.forall_mem_cons.mpr ⟨lw_p46, List.forall_mem_cons.mpr ⟨lw_p47, fun _ h => absurd h List.not_mem_nil⟩⟩⟩⟩⟩⟩⟩⟩⟩⟩⟩⟩⟩⟩⟩⟩
theorem lw_p48 : lw_okq (⟨"RingBarsModel", "isSlice", "(II)Z"⟩, 74) := ⟨⟨by decide +kernel, by decide +kernel⟩, List.mem_of_getElem? (i := 1077) (by decide +kernel), List.mem_of_getElem? (i := 1318) (by decide +kernel), List.mem_of_getElem? (i := 1319) (by decide +kernel)⟩
theorem lw_p49 : lw_okq (⟨"RingBarsModel", "isBar", "(I)Z"⟩, 74) := ⟨⟨by decide +kernel, by decide +kernel⟩, List.mem_of_getElem? (i := 1077) (by decide +kernel), List.mem_of_getElem? (i := 1322) (by decide +kernel), List.mem_of_getElem? (i := 1323) (by decide +kernel)⟩
theorem lw_p50 : lw_okq (⟨"RingBarsModel", "puts", "(I)V"⟩, 74) := ⟨⟨by decide +kernel, by decide +kernel⟩, List.mem_of_getElem? (i := 1077) (by decide +kernel), List.mem_of_getElem? (i := 1338) (by decide +kernel), List.mem_of_getElem? (i := 1339) (by decide +kernel)⟩
theorem lw_p51 : lw_okq (⟨"RingBarsModel", "reads", "()V"⟩, 74) := ⟨⟨by decide +kernel, by decide +kernel⟩, List.mem_of_getElem? (i := 1077) (by decide +kernel), List.mem_of_getElem? (i := 1350) (by decide +kernel), List.mem_of_getElem? (i := 1351) (by decide +kernel)⟩
theorem lw_p52 : lw_okq (⟨"RingBarsModel", "raw", "(I)I"⟩, 74) := ⟨⟨by decide +kernel, by decide +kernel⟩, List.mem_of_getElem? (i := 1077) (by decide +kernel), List.mem_of_getElem? (i := 1354) (by decide +kernel), List.mem_of_getElem? (i := 1355) (by decide +kernel)⟩
theorem lw_p53 : lw_okq (⟨"RingBarsModel", "isLetter", "(I)Z"⟩, 74) := ⟨⟨by decide +kernel, by decide +kernel⟩, List.mem_of_getElem? (i := 1077) (by decide +kernel), List.mem_of_getElem? (i := 1358) (by decide +kernel), List.mem_of_getElem? (i := 1359) (by decide +kernel)⟩
theorem lw_p54 : lw_okq (⟨"RingBarsModel", "wordAt", "(II)I"⟩, 74) := ⟨⟨by decide +kernel, by decide +kernel⟩, List.mem_of_getElem? (i := 1077) (by decide +kernel), List.mem_of_getElem? (i := 1362) (by decide +kernel), List.mem_of_getElem? (i := 1363) (by decide +kernel)⟩
theorem lw_p55 : lw_okq (⟨"RingBarsModel", "isDigit", "(I)Z"⟩, 74) := ⟨⟨by decide +kernel, by decide +kernel⟩, List.mem_of_getElem? (i := 1077) (by decide +kernel), List.mem_of_getElem? (i := 1366) (by decide +kernel), List.mem_of_getElem? (i := 1367) (by decide +kernel)⟩
theorem lw_p56 : lw_okq (⟨"RingBarsModel", "isMarkSign", "(I)Z"⟩, 74) := ⟨⟨by decide +kernel, by decide +kernel⟩, List.mem_of_getElem? (i := 1077) (by decide +kernel), List.mem_of_getElem? (i := 1371) (by decide +kernel), List.mem_of_getElem? (i := 1372) (by decide +kernel)⟩
theorem lw_p57 : lw_okq (⟨"RingBarsModel", "readText", "()I"⟩, 74) := ⟨⟨by decide +kernel, by decide +kernel⟩, List.mem_of_getElem? (i := 1077) (by decide +kernel), List.mem_of_getElem? (i := 1375) (by decide +kernel), List.mem_of_getElem? (i := 1376) (by decide +kernel)⟩
theorem lw_p58 : lw_okq (⟨"RingBarsModel", "isBegin", "()Z"⟩, 74) := ⟨⟨by decide +kernel, by decide +kernel⟩, List.mem_of_getElem? (i := 1077) (by decide +kernel), List.mem_of_getElem? (i := 1379) (by decide +kernel), List.mem_of_getElem? (i := 1380) (by decide +kernel)⟩
theorem lw_p59 : lw_okq (⟨"RingBarsModel", "fails", "(I)I"⟩, 74) := ⟨⟨by decide +kernel, by decide +kernel⟩, List.mem_of_getElem? (i := 1077) (by decide +kernel), List.mem_of_getElem? (i := 1383) (by decide +kernel), List.mem_of_getElem? (i := 1384) (by decide +kernel)⟩
theorem lw_p60 : lw_okq (⟨"RingBarsModel", "readLine", "(I)I"⟩, 74) := ⟨⟨by decide +kernel, by decide +kernel⟩, List.mem_of_getElem? (i := 1077) (by decide +kernel), List.mem_of_getElem? (i := 1387) (by decide +kernel), List.mem_of_getElem? (i := 1388) (by decide +kernel)⟩
theorem lw_p61 : lw_okq (⟨"RingBarsModel", "readNumbers", "(II)I"⟩, 74) := ⟨⟨by decide +kernel, by decide +kernel⟩, List.mem_of_getElem? (i := 1077) (by decide +kernel), List.mem_of_getElem? (i := 1391) (by decide +kernel), List.mem_of_getElem? (i := 1392) (by decide +kernel)⟩
theorem lw_p62 : lw_okq (⟨"RingBarsModel", "readNumber", "(II)I"⟩, 74) := ⟨⟨by decide +kernel, by decide +kernel⟩, List.mem_of_getElem? (i := 1077) (by decide +kernel), List.mem_of_getElem? (i := 1395) (by decide +kernel), List.mem_of_getElem? (i := 1396) (by decide +kernel)⟩
theorem lw_p63 : lw_okq (⟨"RingBarsModel", "readSum", "()I"⟩, 74) := ⟨⟨by decide +kernel, by decide +kernel⟩, List.mem_of_getElem? (i := 1077) (by decide +kernel), List.mem_of_getElem? (i := 1399) (by decide +kernel), List.mem_of_getElem? (i := 1400) (by decide +kernel)⟩
def lw_privs_4 : List (MethodName × Nat) := [(⟨"RingBarsModel", "isSlice", "(II)Z"⟩, 74), (⟨"RingBarsModel", "isBar", "(I)Z"⟩, 74), (⟨"RingBarsModel", "puts", "(I)V"⟩, 74), (⟨"RingBarsModel", "reads", "()V"⟩, 74), (⟨"RingBarsModel", "raw", "(I)I"⟩, 74), (⟨"RingBarsModel", "isLetter", "(I)Z"⟩, 74), (⟨"RingBarsModel", "wordAt", "(II)I"⟩, 74), (⟨"RingBarsModel", "isDigit", "(I)Z"⟩, 74), (⟨"RingBarsModel", "isMarkSign", "(I)Z"⟩, 74), (⟨"RingBarsModel", "readText", "()I"⟩, 74), (⟨"RingBarsModel", "isBegin", "()Z"⟩, 74), (⟨"RingBarsModel", "fails", "(I)I"⟩, 74), (⟨"RingBarsModel", "readLine", "(I)I"⟩, 74), (⟨"RingBarsModel", "readNumbers", "(II)I"⟩, 74), (⟨"RingBarsModel", "readNumber", "(II)I"⟩, 74), (⟨"RingBarsModel", "readSum", "()I"⟩, 74)]
theorem lw_r4 : ∀ q ∈ lw_privs_4, lw_okq q := List.forall_mem_cons.mpr ⟨lw_p48, List.forall_mem_cons.mpr ⟨lw_p49, List.forall_mem_cons.mpr ⟨lw_p50, List.forall_mem_cons.mpr ⟨lw_p51, List.forall_mem_cons.mpr ⟨lw_p52, List.forall_mem_cons.mpr ⟨lw_p53, List.forall_mem_cons.mpr ⟨lw_p54, List.forall_mem_cons.mpr ⟨lw_p55, List.forall_mem_cons.mpr ⟨lw_p56, List.forall_mem_cons.mpr ⟨lw_p57, List.forall_mem_cons.mpr ⟨lw_p58, List.forall_mem_cons.mpr ⟨lw_p59, List.forall_mem_cons.mpr ⟨lw_p60, List.forall_mem_cons.mpr ⟨lw_p61, List.forall_mem_cons.mpr ⟨lw_p62, List.forall_mem_cons.mpr ⟨lw_p63, fun _ h => absurd h List.not_mem_nil⟩⟩⟩⟩⟩⟩⟩⟩⟩⟩⟩⟩⟩⟩⟩⟩
theorem lw_p64 : lw_okq (⟨"RingBarsModel", "readProduct", "()I"⟩, 74) := ⟨⟨by decide +kernel, by decide +kernel⟩, List.mem_of_getElem? (i := 1077) (by decide +kernel), List.mem_of_getElem? (i := 1403) (by decide +kernel), List.mem_of_getElem? (i := 1404) (by decide +kernel)⟩
theorem lw_p65 : lw_okq (⟨"RingBarsModel", "readUnit", "()I"⟩, 74) := ⟨⟨by decide +kernel, by decide +kernel⟩, List.mem_of_getElem? (i := 1077) (by decide +kernel), List.mem_of_getElem? (i := 1407) (by decide +kernel), List.mem_of_getElem? (i := 1408) (by decide +kernel)⟩
theorem lw_p66 : lw_okq (⟨"RingBarsModel", "emits", "(II)V"⟩, 74) := ⟨⟨by decide +kernel, by decide +kernel⟩, List.mem_of_getElem? (i := 1077) (by decide +kernel), List.mem_of_getElem? (i := 1411) (by decide +kernel), List.mem_of_getElem? (i := 1412) (by decide +kernel)⟩
theorem lw_p67 : lw_okq (⟨"RingBarsModel", "isSign", "(I)Z"⟩, 74) := ⟨⟨by decide +kernel, by decide +kernel⟩, List.mem_of_getElem? (i := 1077) (by decide +kernel), List.mem_of_getElem? (i := 1415) (by decide +kernel), List.mem_of_getElem? (i := 1416) (by decide +kernel)⟩
theorem lw_p68 : lw_okq (⟨"RingBarsModel", "isWord", "(I)Z"⟩, 74) := ⟨⟨by decide +kernel, by decide +kernel⟩, List.mem_of_getElem? (i := 1077) (by decide +kernel), List.mem_of_getElem? (i := 1419) (by decide +kernel), List.mem_of_getElem? (i := 1420) (by decide +kernel)⟩
theorem lw_p69 : lw_okq (⟨"RingBarsModel", "readAny", "()I"⟩, 74) := ⟨⟨by decide +kernel, by decide +kernel⟩, List.mem_of_getElem? (i := 1077) (by decide +kernel), List.mem_of_getElem? (i := 1423) (by decide +kernel), List.mem_of_getElem? (i := 1424) (by decide +kernel)⟩
theorem lw_p70 : lw_okq (⟨"RingBarsModel", "waits", "(I)V"⟩, 74) := ⟨⟨by decide +kernel, by decide +kernel⟩, List.mem_of_getElem? (i := 1077) (by decide +kernel), List.mem_of_getElem? (i := 1427) (by decide +kernel), List.mem_of_getElem? (i := 1428) (by decide +kernel)⟩
theorem lw_p71 : lw_okq (⟨"RingBarsModel", "readCompared", "()I"⟩, 74) := ⟨⟨by decide +kernel, by decide +kernel⟩, List.mem_of_getElem? (i := 1077) (by decide +kernel), List.mem_of_getElem? (i := 1431) (by decide +kernel), List.mem_of_getElem? (i := 1432) (by decide +kernel)⟩
theorem lw_p72 : lw_okq (⟨"RingBarsModel", "settles", "(I)V"⟩, 74) := ⟨⟨by decide +kernel, by decide +kernel⟩, List.mem_of_getElem? (i := 1077) (by decide +kernel), List.mem_of_getElem? (i := 1435) (by decide +kernel), List.mem_of_getElem? (i := 1436) (by decide +kernel)⟩
theorem lw_p73 : lw_okq (⟨"RingBarsModel", "isLaw", "(I)Z"⟩, 74) := ⟨⟨by decide +kernel, by decide +kernel⟩, List.mem_of_getElem? (i := 1077) (by decide +kernel), List.mem_of_getElem? (i := 1447) (by decide +kernel), List.mem_of_getElem? (i := 1448) (by decide +kernel)⟩
theorem lw_p74 : lw_okq (⟨"RingBarsModel", "isTone", "(I)Z"⟩, 74) := ⟨⟨by decide +kernel, by decide +kernel⟩, List.mem_of_getElem? (i := 1077) (by decide +kernel), List.mem_of_getElem? (i := 1455) (by decide +kernel), List.mem_of_getElem? (i := 1456) (by decide +kernel)⟩
theorem lw_p75 : lw_okq (⟨"RingBarsModel", "asksSlice", "(II)V"⟩, 74) := ⟨⟨by decide +kernel, by decide +kernel⟩, List.mem_of_getElem? (i := 1077) (by decide +kernel), List.mem_of_getElem? (i := 1460) (by decide +kernel), List.mem_of_getElem? (i := 1461) (by decide +kernel)⟩
theorem lw_p76 : lw_okq (⟨"RingBarsModel", "asks", "(IIIIII)V"⟩, 74) := ⟨⟨by decide +kernel, by decide +kernel⟩, List.mem_of_getElem? (i := 1077) (by decide +kernel), List.mem_of_getElem? (i := 1464) (by decide +kernel), List.mem_of_getElem? (i := 1465) (by decide +kernel)⟩
theorem lw_p77 : lw_okq (⟨"RingBarsModel", "size", "(I)I"⟩, 74) := ⟨⟨by decide +kernel, by decide +kernel⟩, List.mem_of_getElem? (i := 1077) (by decide +kernel), List.mem_of_getElem? (i := 1468) (by decide +kernel), List.mem_of_getElem? (i := 1469) (by decide +kernel)⟩
theorem lw_p78 : lw_okq (⟨"RingBarsModel", "tellsBy", "(III)I"⟩, 74) := ⟨⟨by decide +kernel, by decide +kernel⟩, List.mem_of_getElem? (i := 1077) (by decide +kernel), List.mem_of_getElem? (i := 1472) (by decide +kernel), List.mem_of_getElem? (i := 1473) (by decide +kernel)⟩
theorem lw_p79 : lw_okq (⟨"RingBarsModel", "isSo", "(II)Z"⟩, 74) := ⟨⟨by decide +kernel, by decide +kernel⟩, List.mem_of_getElem? (i := 1077) (by decide +kernel), List.mem_of_getElem? (i := 1476) (by decide +kernel), List.mem_of_getElem? (i := 1477) (by decide +kernel)⟩
def lw_privs_5 : List (MethodName × Nat) := [(⟨"RingBarsModel", "readProduct", "()I"⟩, 74), (⟨"RingBarsModel", "readUnit", "()I"⟩, 74), (⟨"RingBarsModel", "emits", "(II)V"⟩, 74), (⟨"RingBarsModel", "isSign", "(I)Z"⟩, 74), (⟨"RingBarsModel", "isWord", "(I)Z"⟩, 74), (⟨"RingBarsModel", "readAny", "()I"⟩, 74), (⟨"RingBarsModel", "waits", "(I)V"⟩, 74), (⟨"RingBarsModel", "readCompared", "()I"⟩, 74), (⟨"RingBarsModel", "settles", "(I)V"⟩, 74), (⟨"RingBarsModel", "isLaw", "(I)Z"⟩, 74), (⟨"RingBarsModel", "isTone", "(I)Z"⟩, 74), (⟨"RingBarsModel", "asksSlice", "(II)V"⟩, 74), (⟨"RingBarsModel", "asks", "(IIIIII)V"⟩, 74), (⟨"RingBarsModel", "size", "(I)I"⟩, 74), (⟨"RingBarsModel", "tellsBy", "(III)I"⟩, 74), (⟨"RingBarsModel", "isSo", "(II)Z"⟩, 74)]
theorem lw_r5 : ∀ q ∈ lw_privs_5, lw_okq q := List.forall_mem_cons.mpr ⟨lw_p64, List.forall_mem_cons.mpr ⟨lw_p65, List.forall_mem_cons.mpr ⟨lw_p66, List.forall_mem_cons.mpr ⟨lw_p67, List.forall_mem_cons.mpr ⟨lw_p68, List.forall_mem_cons.mpr ⟨lw_p69, List.forall_mem_cons.mpr ⟨lw_p70, List.forall_mem_cons.mpr ⟨lw_p71, List.forall_mem_cons.mpr ⟨lw_p72, List.forall_mem_cons.mpr ⟨lw_p73, List.forall_mem_cons.mpr ⟨lw_p74, List.forall_mem_cons.mpr ⟨lw_p75, List.forall_mem_cons.mpr ⟨lw_p76, List.forall_mem_cons.mpr ⟨lw_p77, List.forall_mem_cons.mpr ⟨lw_p78, List.forall_mem_cons.mpr ⟨lw_p79, fun _ h => absurd h List.not_mem_nil⟩⟩⟩⟩⟩⟩⟩⟩⟩⟩⟩⟩⟩⟩⟩⟩
theorem lw_p80 : lw_okq (⟨"RingBarsModel", "worth", "(III)I"⟩, 74) := ⟨⟨by decide +kernel, by decide +kernel⟩, List.mem_of_getElem? (i := 1077) (by decide +kernel), List.mem_of_getElem? (i := 1480) (by decide +kernel), List.mem_of_getElem? (i := 1481) (by decide +kernel)⟩
theorem lw_p81 : lw_okq (⟨"RingBarsModel", "twoOf", "(III)I"⟩, 74) := ⟨⟨by decide +kernel, by decide +kernel⟩, List.mem_of_getElem? (i := 1077) (by decide +kernel), List.mem_of_getElem? (i := 1484) (by decide +kernel), List.mem_of_getElem? (i := 1485) (by decide +kernel)⟩
theorem lw_p82 : lw_okq (⟨"RingBarsModel", "toneNow", "(II)I"⟩, 74) := ⟨⟨by decide +kernel, by decide +kernel⟩, List.mem_of_getElem? (i := 1077) (by decide +kernel), List.mem_of_getElem? (i := 1493) (by decide +kernel), List.mem_of_getElem? (i := 1494) (by decide +kernel)⟩
theorem lw_p83 : lw_okq (⟨"RingBarsModel", "toneBy", "(III)I"⟩, 74) := ⟨⟨by decide +kernel, by decide +kernel⟩, List.mem_of_getElem? (i := 1077) (by decide +kernel), List.mem_of_getElem? (i := 1497) (by decide +kernel), List.mem_of_getElem? (i := 1498) (by decide +kernel)⟩
theorem lw_p84 : lw_okq (⟨"RingBarsModel", "canPass", "(III)Z"⟩, 74) := ⟨⟨by decide +kernel, by decide +kernel⟩, List.mem_of_getElem? (i := 1077) (by decide +kernel), List.mem_of_getElem? (i := 1505) (by decide +kernel), List.mem_of_getElem? (i := 1506) (by decide +kernel)⟩
theorem lw_p85 : lw_okq (⟨"RingBarsModel", "takesOff", "(III)V"⟩, 74) := ⟨⟨by decide +kernel, by decide +kernel⟩, List.mem_of_getElem? (i := 1077) (by decide +kernel), List.mem_of_getElem? (i := 1509) (by decide +kernel), List.mem_of_getElem? (i := 1510) (by decide +kernel)⟩
theorem lw_p86 : lw_okq (⟨"RingBarsModel", "isLost", "(I)Z"⟩, 74) := ⟨⟨by decide +kernel, by decide +kernel⟩, List.mem_of_getElem? (i := 1077) (by decide +kernel), List.mem_of_getElem? (i := 1513) (by decide +kernel), List.mem_of_getElem? (i := 1514) (by decide +kernel)⟩
theorem lw_p87 : lw_okq (⟨"RingBarsModel", "asksJob", "(I)V"⟩, 74) := ⟨⟨by decide +kernel, by decide +kernel⟩, List.mem_of_getElem? (i := 1077) (by decide +kernel), List.mem_of_getElem? (i := 1539) (by decide +kernel), List.mem_of_getElem? (i := 1540) (by decide +kernel)⟩
theorem lw_p88 : lw_okq (⟨"RingBarsModel", "doesLine", "(II)V"⟩, 74) := ⟨⟨by decide +kernel, by decide +kernel⟩, List.mem_of_getElem? (i := 1077) (by decide +kernel), List.mem_of_getElem? (i := 1543) (by decide +kernel), List.mem_of_getElem? (i := 1544) (by decide +kernel)⟩
theorem lw_p89 : lw_okq (⟨"RingBarsModel", "findsFewest", "(I)I"⟩, 74) := ⟨⟨by decide +kernel, by decide +kernel⟩, List.mem_of_getElem? (i := 1077) (by decide +kernel), List.mem_of_getElem? (i := 1551) (by decide +kernel), List.mem_of_getElem? (i := 1552) (by decide +kernel)⟩
theorem lw_p90 : lw_okq (⟨"RingBarsModel", "findsTable", "(I)V"⟩, 74) := ⟨⟨by decide +kernel, by decide +kernel⟩, List.mem_of_getElem? (i := 1077) (by decide +kernel), List.mem_of_getElem? (i := 1555) (by decide +kernel), List.mem_of_getElem? (i := 1556) (by decide +kernel)⟩
theorem lw_p91 : lw_okq (⟨"RingBarsModel", "does", "(II)Z"⟩, 74) := ⟨⟨by decide +kernel, by decide +kernel⟩, List.mem_of_getElem? (i := 1077) (by decide +kernel), List.mem_of_getElem? (i := 1559) (by decide +kernel), List.mem_of_getElem? (i := 1560) (by decide +kernel)⟩
theorem lw_p92 : lw_okq (⟨"RingBarsModel", "wouldBe", "(I)I"⟩, 74) := ⟨⟨by decide +kernel, by decide +kernel⟩, List.mem_of_getElem? (i := 1077) (by decide +kernel), List.mem_of_getElem? (i := 1563) (by decide +kernel), List.mem_of_getElem? (i := 1564) (by decide +kernel)⟩
theorem lw_p93 : lw_okq (⟨"RingBarsModel", "toneByTable", "(II)I"⟩, 74) := ⟨⟨by decide +kernel, by decide +kernel⟩, List.mem_of_getElem? (i := 1077) (by decide +kernel), List.mem_of_getElem? (i := 1567) (by decide +kernel), List.mem_of_getElem? (i := 1568) (by decide +kernel)⟩
theorem lw_p94 : lw_okq (⟨"RingBarsModel", "goesOn", "(II)Z"⟩, 74) := ⟨⟨by decide +kernel, by decide +kernel⟩, List.mem_of_getElem? (i := 1077) (by decide +kernel), List.mem_of_getElem? (i := 1571) (by decide +kernel), List.mem_of_getElem? (i := 1572) (by decide +kernel)⟩
theorem lw_p95 : lw_okq (⟨"RingBarsModel", "findsFits", "(III)V"⟩, 74) := ⟨⟨by decide +kernel, by decide +kernel⟩, List.mem_of_getElem? (i := 1077) (by decide +kernel), List.mem_of_getElem? (i := 1584) (by decide +kernel), List.mem_of_getElem? (i := 1585) (by decide +kernel)⟩
def lw_privs_6 : List (MethodName × Nat) := [(⟨"RingBarsModel", "worth", "(III)I"⟩, 74), (⟨"RingBarsModel", "twoOf", "(III)I"⟩, 74), (⟨"RingBarsModel", "toneNow", "(II)I"⟩, 74), (⟨"RingBarsModel", "toneBy", "(III)I"⟩, 74), (⟨"RingBarsModel", "canPass", "(III)Z"⟩, 74), (⟨"RingBarsModel", "takesOff", "(III)V"⟩, 74), (⟨"RingBarsModel", "isLost", "(I)Z"⟩, 74), (⟨"RingBarsModel", "asksJob", "(I)V"⟩, 74), (⟨"RingBarsModel", "doesLine", "(II)V"⟩, 74), (⟨"RingBarsModel", "findsFewest", "(I)I"⟩, 74), (⟨"RingBarsModel", "findsTable", "(I)V"⟩, 74), (⟨"RingBarsModel", "does", "(II)Z"⟩, 74), (⟨"RingBarsModel", "wouldBe", "(I)I"⟩, 74), (⟨"RingBarsModel", "toneByTable", "(II)I"⟩, 74), (⟨"RingBarsModel", "goesOn", "(II)Z"⟩, 74), (⟨"RingBarsModel", "findsFits", "(III)V"⟩, 74)]
theorem lw_r6 : ∀ q ∈ lw_privs_6, lw_okq q := List.forall_mem_cons.mpr ⟨lw_p80, List.forall_mem_cons.mpr ⟨lw_p81, List.forall_mem_cons.mpr ⟨lw_p82, List.forall_mem_cons.mpr ⟨lw_p83, List.forall_mem_cons.mpr ⟨lw_p84, List.forall_mem_cons.mpr ⟨lw_p85, List.forall_mem_cons.mpr ⟨lw_p86, List.forall_mem_cons.mpr ⟨lw_p87, List.forall_mem_cons.mpr ⟨lw_p88, List.forall_mem_cons.mpr ⟨lw_p89, List.forall_mem_cons.mpr ⟨lw_p90, List.forall_mem_cons.mpr ⟨lw_p91, List.forall_mem_cons.mpr ⟨lw_p92, List.forall_mem_cons.mpr ⟨lw_p93, List.forall_mem_cons.mpr ⟨lw_p94, List.forall_mem_cons.mpr ⟨lw_p95, fun _ h => absurd h List.not_mem_nil⟩⟩⟩⟩⟩⟩⟩⟩⟩⟩⟩⟩⟩⟩⟩⟩
theorem lw_p96 : lw_okq (⟨"RingBarsModel", "fitsAll", "(II)Z"⟩, 74) := ⟨⟨by decide +kernel, by decide +kernel⟩, List.mem_of_getElem? (i := 1077) (by decide +kernel), List.mem_of_getElem? (i := 1588) (by decide +kernel), List.mem_of_getElem? (i := 1589) (by decide +kernel)⟩
theorem lw_p97 : lw_okq (⟨"RingBarsModel", "toneOf", "(III)I"⟩, 74) := ⟨⟨by decide +kernel, by decide +kernel⟩, List.mem_of_getElem? (i := 1077) (by decide +kernel), List.mem_of_getElem? (i := 1592) (by decide +kernel), List.mem_of_getElem? (i := 1593) (by decide +kernel)⟩
theorem lw_p98 : lw_okq (⟨"RingBarsModel", "nextPass", "(I)I"⟩, 74) := ⟨⟨by decide +kernel, by decide +kernel⟩, List.mem_of_getElem? (i := 1077) (by decide +kernel), List.mem_of_getElem? (i := 1596) (by decide +kernel), List.mem_of_getElem? (i := 1597) (by decide +kernel)⟩
theorem lw_p99 : lw_okq (⟨"RingBarsModel", "unlikeBy", "(II)I"⟩, 74) := ⟨⟨by decide +kernel, by decide +kernel⟩, List.mem_of_getElem? (i := 1077) (by decide +kernel), List.mem_of_getElem? (i := 1600) (by decide +kernel), List.mem_of_getElem? (i := 1601) (by decide +kernel)⟩
theorem lw_p100 : lw_okq (⟨"RingBarsModel", "sureOf", "(I)I"⟩, 74) := ⟨⟨by decide +kernel, by decide +kernel⟩, List.mem_of_getElem? (i := 1077) (by decide +kernel), List.mem_of_getElem? (i := 1604) (by decide +kernel), List.mem_of_getElem? (i := 1605) (by decide +kernel)⟩
theorem lw_p101 : lw_okq (⟨"RingBarsModel", "offOf", "(I)I"⟩, 74) := ⟨⟨by decide +kernel, by decide +kernel⟩, List.mem_of_getElem? (i := 1077) (by decide +kernel), List.mem_of_getElem? (i := 1612) (by decide +kernel), List.mem_of_getElem? (i := 1613) (by decide +kernel)⟩
theorem lw_p102 : lw_okq (⟨"RingBarsModel", "stills", "(II)I"⟩, 74) := ⟨⟨by decide +kernel, by decide +kernel⟩, List.mem_of_getElem? (i := 1077) (by decide +kernel), List.mem_of_getElem? (i := 1622) (by decide +kernel), List.mem_of_getElem? (i := 1623) (by decide +kernel)⟩
theorem lw_p103 : lw_okq (⟨"RingBarsModel", "isStill", "(III)Z"⟩, 74) := ⟨⟨by decide +kernel, by decide +kernel⟩, List.mem_of_getElem? (i := 1077) (by decide +kernel), List.mem_of_getElem? (i := 1626) (by decide +kernel), List.mem_of_getElem? (i := 1627) (by decide +kernel)⟩
theorem lw_p104 : lw_okq (⟨"RingBarsModel", "sways", "(III)Z"⟩, 74) := ⟨⟨by decide +kernel, by decide +kernel⟩, List.mem_of_getElem? (i := 1077) (by decide +kernel), List.mem_of_getElem? (i := 1630) (by decide +kernel), List.mem_of_getElem? (i := 1631) (by decide +kernel)⟩
theorem lw_p105 : lw_okq (⟨"RingBarsModel", "stillAt", "(III)I"⟩, 74) := ⟨⟨by decide +kernel, by decide +kernel⟩, List.mem_of_getElem? (i := 1077) (by decide +kernel), List.mem_of_getElem? (i := 1634) (by decide +kernel), List.mem_of_getElem? (i := 1635) (by decide +kernel)⟩
theorem lw_p106 : lw_okq (⟨"RingBarsModel", "isTrue", "(I)Z"⟩, 74) := ⟨⟨by decide +kernel, by decide +kernel⟩, List.mem_of_getElem? (i := 1077) (by decide +kernel), List.mem_of_getElem? (i := 1646) (by decide +kernel), List.mem_of_getElem? (i := 1647) (by decide +kernel)⟩
theorem lw_p107 : lw_okq (⟨"RingBarsModel", "amiss", "(I)I"⟩, 74) := ⟨⟨by decide +kernel, by decide +kernel⟩, List.mem_of_getElem? (i := 1077) (by decide +kernel), List.mem_of_getElem? (i := 1650) (by decide +kernel), List.mem_of_getElem? (i := 1651) (by decide +kernel)⟩
theorem lw_p108 : lw_okq (⟨"RingBarsModel", "isHeat", "(I)Z"⟩, 74) := ⟨⟨by decide +kernel, by decide +kernel⟩, List.mem_of_getElem? (i := 1077) (by decide +kernel), List.mem_of_getElem? (i := 1662) (by decide +kernel), List.mem_of_getElem? (i := 1663) (by decide +kernel)⟩
theorem lw_p109 : lw_okq (⟨"RingBarsModel", "isWet", "(I)Z"⟩, 74) := ⟨⟨by decide +kernel, by decide +kernel⟩, List.mem_of_getElem? (i := 1077) (by decide +kernel), List.mem_of_getElem? (i := 1666) (by decide +kernel), List.mem_of_getElem? (i := 1667) (by decide +kernel)⟩
theorem lw_p110 : lw_okq (⟨"RingBarsModel", "beatOf", "(IIII)I"⟩, 74) := ⟨⟨by decide +kernel, by decide +kernel⟩, List.mem_of_getElem? (i := 1077) (by decide +kernel), List.mem_of_getElem? (i := 1670) (by decide +kernel), List.mem_of_getElem? (i := 1671) (by decide +kernel)⟩
theorem lw_p111 : lw_okq (⟨"RingBarsModel", "sounds", "(II)I"⟩, 74) := ⟨⟨by decide +kernel, by decide +kernel⟩, List.mem_of_getElem? (i := 1077) (by decide +kernel), List.mem_of_getElem? (i := 1674) (by decide +kernel), List.mem_of_getElem? (i := 1675) (by decide +kernel)⟩
def lw_privs_7 : List (MethodName × Nat) := [(⟨"RingBarsModel", "fitsAll", "(II)Z"⟩, 74), (⟨"RingBarsModel", "toneOf", "(III)I"⟩, 74), (⟨"RingBarsModel", "nextPass", "(I)I"⟩, 74), (⟨"RingBarsModel", "unlikeBy", "(II)I"⟩, 74), (⟨"RingBarsModel", "sureOf", "(I)I"⟩, 74), (⟨"RingBarsModel", "offOf", "(I)I"⟩, 74), (⟨"RingBarsModel", "stills", "(II)I"⟩, 74), (⟨"RingBarsModel", "isStill", "(III)Z"⟩, 74), (⟨"RingBarsModel", "sways", "(III)Z"⟩, 74), (⟨"RingBarsModel", "stillAt", "(III)I"⟩, 74), (⟨"RingBarsModel", "isTrue", "(I)Z"⟩, 74), (⟨"RingBarsModel", "amiss", "(I)I"⟩, 74), (⟨"RingBarsModel", "isHeat", "(I)Z"⟩, 74), (⟨"RingBarsModel", "isWet", "(I)Z"⟩, 74), (⟨"RingBarsModel", "beatOf", "(IIII)I"⟩, 74), (⟨"RingBarsModel", "sounds", "(II)I"⟩, 74)]
theorem lw_r7 : ∀ q ∈ lw_privs_7, lw_okq q := List.forall_mem_cons.mpr ⟨lw_p96, List.forall_mem_cons.mpr ⟨lw_p97, List.forall_mem_cons.mpr ⟨lw_p98, List.forall_mem_cons.mpr ⟨lw_p99, List.forall_mem_cons.mpr ⟨lw_p100, List.forall_mem_cons.mpr ⟨lw_p101, List.forall_mem_cons.mpr ⟨lw_p102, List.forall_mem_cons.mpr ⟨lw_p103, List.forall_mem_cons.mpr ⟨lw_p104, List.forall_mem_cons.mpr ⟨lw_p105, List.forall_mem_cons.mpr ⟨lw_p106, List.forall_mem_cons.mpr ⟨lw_p107, List.forall_mem_cons.mpr ⟨lw_p108, List.forall_mem_cons.mpr ⟨lw_p109, List.forall_mem_cons.mpr ⟨lw_p110, List.forall_mem_cons.mpr ⟨lw_p111, fun _ h => absurd h List.not_mem_nil⟩⟩⟩⟩⟩⟩⟩⟩⟩⟩⟩⟩⟩⟩⟩⟩
theorem lw_p112 : lw_okq (⟨"RingBarsModel", "drifted", "(III)I"⟩, 74) := ⟨⟨by decide +kernel, by decide +kernel⟩, List.mem_of_getElem? (i := 1077) (by decide +kernel), List.mem_of_getElem? (i := 1678) (by decide +kernel), List.mem_of_getElem? (i := 1679) (by decide +kernel)⟩
theorem lw_p113 : lw_okq (⟨"RingBarsModel", "suits", "(I)I"⟩, 74) := ⟨⟨by decide +kernel, by decide +kernel⟩, List.mem_of_getElem? (i := 1077) (by decide +kernel), List.mem_of_getElem? (i := 1691) (by decide +kernel), List.mem_of_getElem? (i := 1692) (by decide +kernel)⟩
theorem lw_p114 : lw_okq (⟨"RingBarsModel", "worstBeat", "(II)I"⟩, 74) := ⟨⟨by decide +kernel, by decide +kernel⟩, List.mem_of_getElem? (i := 1077) (by decide +kernel), List.mem_of_getElem? (i := 1695) (by decide +kernel), List.mem_of_getElem? (i := 1696) (by decide +kernel)⟩
theorem lw_p115 : lw_okq (⟨"RingBarsModel", "worstOf", "(II)I"⟩, 74) := ⟨⟨by decide +kernel, by decide +kernel⟩, List.mem_of_getElem? (i := 1077) (by decide +kernel), List.mem_of_getElem? (i := 1699) (by decide +kernel), List.mem_of_getElem? (i := 1700) (by decide +kernel)⟩
theorem lw_p116 : lw_okq (⟨"RingBarsModel", "together", "(I)I"⟩, 74) := ⟨⟨by decide +kernel, by decide +kernel⟩, List.mem_of_getElem? (i := 1077) (by decide +kernel), List.mem_of_getElem? (i := 1703) (by decide +kernel), List.mem_of_getElem? (i := 1704) (by decide +kernel)⟩
theorem lw_p117 : lw_okq (⟨"RingBarsModel", "leastWaste", "(I)I"⟩, 74) := ⟨⟨by decide +kernel, by decide +kernel⟩, List.mem_of_getElem? (i := 1077) (by decide +kernel), List.mem_of_getElem? (i := 1720) (by decide +kernel), List.mem_of_getElem? (i := 1721) (by decide +kernel)⟩
theorem lw_p118 : lw_okq (⟨"RingBarsModel", "canHave", "(II)Z"⟩, 74) := ⟨⟨by decide +kernel, by decide +kernel⟩, List.mem_of_getElem? (i := 1077) (by decide +kernel), List.mem_of_getElem? (i := 1724) (by decide +kernel), List.mem_of_getElem? (i := 1725) (by decide +kernel)⟩
theorem lw_p119 : lw_okq (⟨"RingBarsModel", "kept", "(I)I"⟩, 74) := ⟨⟨by decide +kernel, by decide +kernel⟩, List.mem_of_getElem? (i := 1077) (by decide +kernel), List.mem_of_getElem? (i := 1740) (by decide +kernel), List.mem_of_getElem? (i := 1741) (by decide +kernel)⟩
theorem lw_p120 : lw_okq (⟨"RingBarsModel", "keepsBars", "()V"⟩, 74) := ⟨⟨by decide +kernel, by decide +kernel⟩, List.mem_of_getElem? (i := 1077) (by decide +kernel), List.mem_of_getElem? (i := 1744) (by decide +kernel), List.mem_of_getElem? (i := 1745) (by decide +kernel)⟩
theorem lw_p121 : lw_okq (⟨"RingBarsModel", "keepsTaps", "()V"⟩, 74) := ⟨⟨by decide +kernel, by decide +kernel⟩, List.mem_of_getElem? (i := 1077) (by decide +kernel), List.mem_of_getElem? (i := 1748) (by decide +kernel), List.mem_of_getElem? (i := 1749) (by decide +kernel)⟩
theorem lw_p122 : lw_okq (⟨"RingBarsModel", "keepsTexts", "()V"⟩, 74) := ⟨⟨by decide +kernel, by decide +kernel⟩, List.mem_of_getElem? (i := 1077) (by decide +kernel), List.mem_of_getElem? (i := 1752) (by decide +kernel), List.mem_of_getElem? (i := 1753) (by decide +kernel)⟩
theorem lw_p123 : lw_okq (⟨"RingBarsModel", "barsThat", "(Z)I"⟩, 74) := ⟨⟨by decide +kernel, by decide +kernel⟩, List.mem_of_getElem? (i := 1077) (by decide +kernel), List.mem_of_getElem? (i := 1760) (by decide +kernel), List.mem_of_getElem? (i := 1761) (by decide +kernel)⟩
def lw_privs_8 : List (MethodName × Nat) := [(⟨"RingBarsModel", "drifted", "(III)I"⟩, 74), (⟨"RingBarsModel", "suits", "(I)I"⟩, 74), (⟨"RingBarsModel", "worstBeat", "(II)I"⟩, 74), (⟨"RingBarsModel", "worstOf", "(II)I"⟩, 74), (⟨"RingBarsModel", "together", "(I)I"⟩, 74), (⟨"RingBarsModel", "leastWaste", "(I)I"⟩, 74), (⟨"RingBarsModel", "canHave", "(II)Z"⟩, 74), (⟨"RingBarsModel", "kept", "(I)I"⟩, 74), (⟨"RingBarsModel", "keepsBars", "()V"⟩, 74), (⟨"RingBarsModel", "keepsTaps", "()V"⟩, 74), (⟨"RingBarsModel", "keepsTexts", "()V"⟩, 74), (⟨"RingBarsModel", "barsThat", "(Z)I"⟩, 74)]
theorem lw_r8 : ∀ q ∈ lw_privs_8, lw_okq q := List.forall_mem_cons.mpr ⟨lw_p112, List.forall_mem_cons.mpr ⟨lw_p113, List.forall_mem_cons.mpr ⟨lw_p114, List.forall_mem_cons.mpr ⟨lw_p115, List.forall_mem_cons.mpr ⟨lw_p116, List.forall_mem_cons.mpr ⟨lw_p117, List.forall_mem_cons.mpr ⟨lw_p118, List.forall_mem_cons.mpr ⟨lw_p119, List.forall_mem_cons.mpr ⟨lw_p120, List.forall_mem_cons.mpr ⟨lw_p121, List.forall_mem_cons.mpr ⟨lw_p122, List.forall_mem_cons.mpr ⟨lw_p123, fun _ h => absurd h List.not_mem_nil⟩⟩⟩⟩⟩⟩⟩⟩⟩⟩⟩⟩
def lw_privs : List (MethodName × Nat) := lw_privs_1 ++ (lw_privs_2 ++ (lw_privs_3 ++ (lw_privs_4 ++ (lw_privs_5 ++ (lw_privs_6 ++ (lw_privs_7 ++ (lw_privs_8)))))))
def lw_tbl : List Cond := k2_sels lw_privs ++ tables_1
theorem lw_privs_ok : ∀ q ∈ lw_privs, lw_okq q := by
  show ∀ q ∈ lw_privs_1 ++ (lw_privs_2 ++ (lw_privs_3 ++ (lw_privs_4 ++ (lw_privs_5 ++ (lw_privs_6 ++ (lw_privs_7 ++ (lw_privs_8))))))), lw_okq q
  exact List.forall_mem_append.mpr ⟨lw_r1, List.forall_mem_append.mpr ⟨lw_r2, List.forall_mem_append.mpr ⟨lw_r3, List.forall_mem_append.mpr ⟨lw_r4, List.forall_mem_append.mpr ⟨lw_r5, List.forall_mem_append.mpr ⟨lw_r6, List.forall_mem_append.mpr ⟨lw_r7, lw_r8⟩⟩⟩⟩⟩⟩⟩
end
section
def RX0 : String := "RingBars$Bar"
def TX0 : u_T := fun k => match k with
  | 0 => ("RingBars$Bar", "size", "I", false)
  | 1 => ("RingBars$Bar", "thick", "[I", true)
  | 2 => ("RingBars$Bar", "grain", "[I", true)
  | 3 => ("RingBars$Bar", "heavy", "[I", true)
  | 4 => ("RingBars$Bar", "wax", "[I", true)
  | 5 => ("RingBars$Bar", "goals", "[I", true)
  | 6 => ("RingBars$Bar", "passSlice", "[I", true)
  | 7 => ("RingBars$Bar", "passDepth", "[I", true)
  | 8 => ("RingBars$Bar", "passCount", "I", false)
  | 9 => ("RingBars$Bar", "lostBy", "I", false)
  | 10 => ("RingBars$Bar", "tapTone", "[I", true)
  | 11 => ("RingBars$Bar", "tapHeard", "[I", true)
  | 12 => ("RingBars$Bar", "tapThick", "[[I", true)
  | 13 => ("RingBars$Bar", "tapWax", "[[I", true)
  | 14 => ("RingBars$Bar", "tapCount", "I", false)
  | 15 => ("RingBars$Bar", "firstHole", "I", false)
  | 16 => ("RingBars$Bar", "secondHole", "I", false)
  | _ => ("RingBars$Bar", "tubes", "[I", true)
def tyX0 : Nat → FieldType := fun k => match k with
  | 0 => .int
  | 1 => .array .int
  | 2 => .array .int
  | 3 => .array .int
  | 4 => .array .int
  | 5 => .array .int
  | 6 => .array .int
  | 7 => .array .int
  | 8 => .int
  | 9 => .int
  | 10 => .array .int
  | 11 => .array .int
  | 12 => .array (.array .int)
  | 13 => .array (.array .int)
  | 14 => .int
  | 15 => .int
  | 16 => .int
  | _ => .array .int
theorem nmX0 : ∀ a, a < 18 → ∀ b, b < 18 → a ≠ b → (TX0 a).2.1 ≠ (TX0 b).2.1 := by decide +kernel
theorem tyX0_ok : ∀ k, k < 18 → parseFieldDescriptor (TX0 k).2.2.1 = some (tyX0 k) := by decide +kernel
abbrev cX0_init : ByteArray := prog_2_method_1_code
def yX0_init : MethodName := ⟨RX0, "<init>", "()V"⟩
abbrev cX0_begin : ByteArray := prog_2_method_2_code
def yX0_begin : MethodName := ⟨RX0, "begin", "(I)V"⟩
abbrev cX0_has : ByteArray := prog_2_method_3_code
def yX0_has : MethodName := ⟨RX0, "has", "(I)Z"⟩
abbrev cX0_addTap : ByteArray := prog_2_method_4_code
def yX0_addTap : MethodName := ⟨RX0, "addTap", "(II)V"⟩
abbrev cX0_thinnedCopy : ByteArray := prog_2_method_5_code
def yX0_thinnedCopy : MethodName := ⟨RX0, "thinnedCopy", "([II)V"⟩
abbrev cX0_copyFrom : ByteArray := prog_2_method_6_code
def yX0_copyFrom : MethodName := ⟨RX0, "copyFrom", "(LRingBars$Bar;)V"⟩
def RX1 : String := "RingBars$GrainSearch"
def TX1 : u_T := fun k => match k with
  | 0 => ("RingBars$GrainSearch", "bend", "[I", true)
  | 1 => ("RingBars$GrainSearch", "mass", "[I", true)
  | 2 => ("RingBars$GrainSearch", "grains", "[I", true)
  | 3 => ("RingBars$GrainSearch", "rows", "[I", true)
  | 4 => ("RingBars$GrainSearch", "count", "I", false)
  | 5 => ("RingBars$GrainSearch", "most", "I", false)
  | 6 => ("RingBars$GrainSearch", "thinner", "[I", true)
  | _ => ("RingBars$GrainSearch", "unlike", "LRingBars$Numbers;", true)
def tyX1 : Nat → FieldType := fun k => match k with
  | 0 => .array .int
  | 1 => .array .int
  | 2 => .array .int
  | 3 => .array .int
  | 4 => .int
  | 5 => .int
  | 6 => .array .int
  | _ => .object "RingBars$Numbers"
theorem nmX1 : ∀ a, a < 8 → ∀ b, b < 8 → a ≠ b → (TX1 a).2.1 ≠ (TX1 b).2.1 := by decide +kernel
theorem tyX1_ok : ∀ k, k < 8 → parseFieldDescriptor (TX1 k).2.2.1 = some (tyX1 k) := by decide +kernel
abbrev cX1_init : ByteArray := prog_3_method_1_code
def yX1_init : MethodName := ⟨RX1, "<init>", "()V"⟩
abbrev cX1_find : ByteArray := prog_3_method_2_code
def yX1_find : MethodName := ⟨RX1, "find", "(LRingBars$Sums;LRingBars$Text;LRingBars$Bar;II)I"⟩
abbrev cX1_fill : ByteArray := prog_3_method_3_code
def yX1_fill : MethodName := ⟨RX1, "fill", "(LRingBars$Sums;LRingBars$Text;LRingBars$Bar;II[I[I)V"⟩
abbrev cX1_place : ByteArray := prog_3_method_4_code
def yX1_place : MethodName := ⟨RX1, "place", "(III)I"⟩
abbrev cX1_unfold : ByteArray := prog_3_method_5_code
def yX1_unfold : MethodName := ⟨RX1, "unfold", "(I)V"⟩
abbrev cX1_toneAt : ByteArray := prog_3_method_6_code
def yX1_toneAt : MethodName := ⟨RX1, "toneAt", "(LRingBars$Bar;I)I"⟩
abbrev cX1_isHeard : ByteArray := prog_3_method_7_code
def yX1_isHeard : MethodName := ⟨RX1, "isHeard", "(LRingBars$Bar;I)Z"⟩
abbrev cX1_sure : ByteArray := prog_3_method_8_code
def yX1_sure : MethodName := ⟨RX1, "sure", "(I)I"⟩
abbrev cX1_nextPass : ByteArray := prog_3_method_9_code
def yX1_nextPass : MethodName := ⟨RX1, "nextPass", "(LRingBars$Sums;LRingBars$Text;LRingBars$Bar;)I"⟩
abbrev cX1_countUnlike : ByteArray := prog_3_method_10_code
def yX1_countUnlike : MethodName := ⟨RX1, "countUnlike", "(LRingBars$Sums;LRingBars$Text;LRingBars$Bar;I)I"⟩
def RX2 : String := "RingBars$Numbers"
def TX2 : u_T := fun k => match k with
  | 0 => ("RingBars$Numbers", "held", "[I", true)
  | _ => ("RingBars$Numbers", "count", "I", false)
def tyX2 : Nat → FieldType := fun k => match k with
  | 0 => .array .int
  | _ => .int
theorem nmX2 : ∀ a, a < 2 → ∀ b, b < 2 → a ≠ b → (TX2 a).2.1 ≠ (TX2 b).2.1 := by decide +kernel
theorem tyX2_ok : ∀ k, k < 2 → parseFieldDescriptor (TX2 k).2.2.1 = some (tyX2 k) := by decide +kernel
abbrev cX2_init : ByteArray := prog_4_method_1_code
def yX2_init : MethodName := ⟨RX2, "<init>", "()V"⟩
abbrev cX2_clear : ByteArray := prog_4_method_2_code
def yX2_clear : MethodName := ⟨RX2, "clear", "()V"⟩
abbrev cX2_add : ByteArray := prog_4_method_3_code
def yX2_add : MethodName := ⟨RX2, "add", "(I)Z"⟩
def RX3 : String := "RingBars$PassSearch"
def TX3 : u_T := fun k => match k with
  | 0 => ("RingBars$PassSearch", "row", "[I", true)
  | 1 => ("RingBars$PassSearch", "bend", "[I", true)
  | 2 => ("RingBars$PassSearch", "mass", "[I", true)
  | 3 => ("RingBars$PassSearch", "bends", "[I", true)
  | 4 => ("RingBars$PassSearch", "masses", "[I", true)
  | 5 => ("RingBars$PassSearch", "goals", "[I", true)
  | 6 => ("RingBars$PassSearch", "taken", "[I", true)
  | 7 => ("RingBars$PassSearch", "room", "[I", true)
  | 8 => ("RingBars$PassSearch", "met", "LRingBars$Numbers;", true)
  | 9 => ("RingBars$PassSearch", "size", "I", false)
  | 10 => ("RingBars$PassSearch", "slack", "I", false)
  | _ => ("RingBars$PassSearch", "key", "I", false)
def tyX3 : Nat → FieldType := fun k => match k with
  | 0 => .array .int
  | 1 => .array .int
  | 2 => .array .int
  | 3 => .array .int
  | 4 => .array .int
  | 5 => .array .int
  | 6 => .array .int
  | 7 => .array .int
  | 8 => .object "RingBars$Numbers"
  | 9 => .int
  | 10 => .int
  | _ => .int
theorem nmX3 : ∀ a, a < 12 → ∀ b, b < 12 → a ≠ b → (TX3 a).2.1 ≠ (TX3 b).2.1 := by decide +kernel
theorem tyX3_ok : ∀ k, k < 12 → parseFieldDescriptor (TX3 k).2.2.1 = some (tyX3 k) := by decide +kernel
abbrev cX3_init : ByteArray := prog_5_method_1_code
def yX3_init : MethodName := ⟨RX3, "<init>", "()V"⟩
abbrev cX3_prepare : ByteArray := prog_5_method_2_code
def yX3_prepare : MethodName := ⟨RX3, "prepare", "(LRingBars$Sums;LRingBars$Text;LRingBars$Bar;I)V"⟩
abbrev cX3_fill : ByteArray := prog_5_method_3_code
def yX3_fill : MethodName := ⟨RX3, "fill", "(LRingBars$Sums;LRingBars$Text;II)V"⟩
abbrev cX3_place : ByteArray := prog_5_method_4_code
def yX3_place : MethodName := ⟨RX3, "place", "(III)I"⟩
abbrev cX3_find : ByteArray := prog_5_method_5_code
def yX3_find : MethodName := ⟨RX3, "find", "()I"⟩
abbrev cX3_goOn : ByteArray := prog_5_method_6_code
def yX3_goOn : MethodName := ⟨RX3, "goOn", "(II)Z"⟩
abbrev cX3_isReached : ByteArray := prog_5_method_7_code
def yX3_isReached : MethodName := ⟨RX3, "isReached", "(III)Z"⟩
abbrev cX3_move : ByteArray := prog_5_method_8_code
def yX3_move : MethodName := ⟨RX3, "move", "(II)V"⟩
abbrev cX3_isTrueNow : ByteArray := prog_5_method_9_code
def yX3_isTrueNow : MethodName := ⟨RX3, "isTrueNow", "()Z"⟩
abbrev cX3_isNearBehind : ByteArray := prog_5_method_10_code
def yX3_isNearBehind : MethodName := ⟨RX3, "isNearBehind", "(IZ)Z"⟩
abbrev cX3_isNear : ByteArray := prog_5_method_11_code
def yX3_isNear : MethodName := ⟨RX3, "isNear", "(IIIZ)Z"⟩
def RX4 : String := "RingBars$Reader"
def TX4 : u_T := fun k => match k with
  | 0 => ("RingBars$Reader", "made", "LRingBars$Text;", true)
  | 1 => ("RingBars$Reader", "fault", "I", false)
  | 2 => ("RingBars$Reader", "faultPlace", "I", false)
  | 3 => ("RingBars$Reader", "kinds", "[I", true)
  | 4 => ("RingBars$Reader", "values", "[I", true)
  | 5 => ("RingBars$Reader", "places", "[I", true)
  | 6 => ("RingBars$Reader", "tokens", "I", false)
  | 7 => ("RingBars$Reader", "at", "I", false)
  | _ => ("RingBars$Reader", "law", "Z", false)
def tyX4 : Nat → FieldType := fun k => match k with
  | 0 => .object "RingBars$Text"
  | 1 => .int
  | 2 => .int
  | 3 => .array .int
  | 4 => .array .int
  | 5 => .array .int
  | 6 => .int
  | 7 => .int
  | _ => .boolean
theorem nmX4 : ∀ a, a < 9 → ∀ b, b < 9 → a ≠ b → (TX4 a).2.1 ≠ (TX4 b).2.1 := by decide +kernel
theorem tyX4_ok : ∀ k, k < 9 → parseFieldDescriptor (TX4 k).2.2.1 = some (tyX4 k) := by decide +kernel
abbrev cX4_init : ByteArray := prog_6_method_1_code
def yX4_init : MethodName := ⟨RX4, "<init>", "()V"⟩
abbrev cX4_start : ByteArray := prog_6_method_2_code
def yX4_start : MethodName := ⟨RX4, "start", "([IIZ)V"⟩
abbrev cX4_addToken : ByteArray := prog_6_method_3_code
def yX4_addToken : MethodName := ⟨RX4, "addToken", "(III)V"⟩
abbrev cX4_isLetter : ByteArray := prog_6_method_4_code
def yX4_isLetter : MethodName := ⟨RX4, "isLetter", "(I)Z"⟩
abbrev cX4_isDigit : ByteArray := prog_6_method_5_code
def yX4_isDigit : MethodName := ⟨RX4, "isDigit", "(I)Z"⟩
abbrev cX4_isSign : ByteArray := prog_6_method_6_code
def yX4_isSign : MethodName := ⟨RX4, "isSign", "(I)Z"⟩
abbrev cX4_wordAt : ByteArray := prog_6_method_7_code
def yX4_wordAt : MethodName := ⟨RX4, "wordAt", "([III)I"⟩
abbrev cX4_isWord : ByteArray := prog_6_method_8_code
def yX4_isWord : MethodName := ⟨RX4, "isWord", "([IIII)Z"⟩
abbrev cX4_numberAt : ByteArray := prog_6_method_9_code
def yX4_numberAt : MethodName := ⟨RX4, "numberAt", "([III)I"⟩
abbrev cX4_goesOn : ByteArray := prog_6_method_10_code
def yX4_goesOn : MethodName := ⟨RX4, "goesOn", "()Z"⟩
abbrev cX4_refuse : ByteArray := prog_6_method_11_code
def yX4_refuse : MethodName := ⟨RX4, "refuse", "(I)Z"⟩
abbrev cX4_line : ByteArray := prog_6_method_12_code
def yX4_line : MethodName := ⟨RX4, "line", "()Z"⟩
abbrev cX4_lawHead : ByteArray := prog_6_method_13_code
def yX4_lawHead : MethodName := ⟨RX4, "lawHead", "(II)Z"⟩
abbrev cX4_jobHead : ByteArray := prog_6_method_14_code
def yX4_jobHead : MethodName := ⟨RX4, "jobHead", "(II)Z"⟩
abbrev cX4_number : ByteArray := prog_6_method_15_code
def yX4_number : MethodName := ⟨RX4, "number", "(II)Z"⟩
abbrev cX4_either : ByteArray := prog_6_method_16_code
def yX4_either : MethodName := ⟨RX4, "either", "(I)Z"⟩
abbrev cX4_both : ByteArray := prog_6_method_17_code
def yX4_both : MethodName := ⟨RX4, "both", "(I)Z"⟩
abbrev cX4_part : ByteArray := prog_6_method_18_code
def yX4_part : MethodName := ⟨RX4, "part", "(I)Z"⟩
abbrev cX4_opened : ByteArray := prog_6_method_19_code
def yX4_opened : MethodName := ⟨RX4, "opened", "(II)Z"⟩
abbrev cX4_sum : ByteArray := prog_6_method_20_code
def yX4_sum : MethodName := ⟨RX4, "sum", "()Z"⟩
abbrev cX4_term : ByteArray := prog_6_method_21_code
def yX4_term : MethodName := ⟨RX4, "term", "()Z"⟩
abbrev cX4_isUnit : ByteArray := prog_6_method_22_code
def yX4_isUnit : MethodName := ⟨RX4, "isUnit", "(I)Z"⟩
def RX5 : String := "RingBars$SetSearch"
def TX5 : u_T := fun k => match k with
  | 0 => ("RingBars$SetSearch", "best", "[I", true)
  | 1 => ("RingBars$SetSearch", "tried", "[I", true)
  | 2 => ("RingBars$SetSearch", "met", "[I", true)
  | 3 => ("RingBars$SetSearch", "least", "I", false)
  | _ => ("RingBars$SetSearch", "spread", "I", false)
def tyX5 : Nat → FieldType := fun k => match k with
  | 0 => .array .int
  | 1 => .array .int
  | 2 => .array .int
  | 3 => .int
  | _ => .int
theorem nmX5 : ∀ a, a < 5 → ∀ b, b < 5 → a ≠ b → (TX5 a).2.1 ≠ (TX5 b).2.1 := by decide +kernel
theorem tyX5_ok : ∀ k, k < 5 → parseFieldDescriptor (TX5 k).2.2.1 = some (tyX5 k) := by decide +kernel
abbrev cX5_init : ByteArray := prog_7_method_1_code
def yX5_init : MethodName := ⟨RX5, "<init>", "()V"⟩
abbrev cX5_find : ByteArray := prog_7_method_2_code
def yX5_find : MethodName := ⟨RX5, "find", "(LRingBars$World;I)I"⟩
abbrev cX5_goOn : ByteArray := prog_7_method_3_code
def yX5_goOn : MethodName := ⟨RX5, "goOn", "(LRingBars$World;III)V"⟩
abbrev cX5_ringsTogether : ByteArray := prog_7_method_4_code
def yX5_ringsTogether : MethodName := ⟨RX5, "ringsTogether", "(LRingBars$World;II)Z"⟩
def RX6 : String := "RingBars$Sums"
def TX6 : u_T := fun k => match k with
  | 0 => ("RingBars$Sums", "units", "[I", true)
  | _ => ("RingBars$Sums", "stack", "[I", true)
def tyX6 : Nat → FieldType := fun k => match k with
  | 0 => .array .int
  | _ => .array .int
theorem nmX6 : ∀ a, a < 2 → ∀ b, b < 2 → a ≠ b → (TX6 a).2.1 ≠ (TX6 b).2.1 := by decide +kernel
theorem tyX6_ok : ∀ k, k < 2 → parseFieldDescriptor (TX6 k).2.2.1 = some (tyX6 k) := by decide +kernel
abbrev cX6_init : ByteArray := prog_8_method_1_code
def yX6_init : MethodName := ⟨RX6, "<init>", "()V"⟩
abbrev cX6_seeSlice : ByteArray := prog_8_method_2_code
def yX6_seeSlice : MethodName := ⟨RX6, "seeSlice", "(LRingBars$Bar;IIII)V"⟩
abbrev cX6_seeAir : ByteArray := prog_8_method_3_code
def yX6_seeAir : MethodName := ⟨RX6, "seeAir", "(II)V"⟩
abbrev cX6_seeBar : ByteArray := prog_8_method_4_code
def yX6_seeBar : MethodName := ⟨RX6, "seeBar", "(IIII)V"⟩
abbrev cX6_told : ByteArray := prog_8_method_5_code
def yX6_told : MethodName := ⟨RX6, "told", "(LRingBars$Text;II)I"⟩
abbrev cX6_toneOf : ByteArray := prog_8_method_6_code
def yX6_toneOf : MethodName := ⟨RX6, "toneOf", "(LRingBars$Text;ILRingBars$Bar;[I[I[I)I"⟩
abbrev cX6_sumOf : ByteArray := prog_8_method_7_code
def yX6_sumOf : MethodName := ⟨RX6, "sumOf", "(LRingBars$Text;IILRingBars$Bar;I)I"⟩
abbrev cX6_value : ByteArray := prog_8_method_8_code
def yX6_value : MethodName := ⟨RX6, "value", "(LRingBars$Text;II)I"⟩
abbrev cX6_joined : ByteArray := prog_8_method_9_code
def yX6_joined : MethodName := ⟨RX6, "joined", "(III)I"⟩
def RX7 : String := "RingBars$Text"
def TX7 : u_T := fun k => match k with
  | 0 => ("RingBars$Text", "lines", "I", false)
  | 1 => ("RingBars$Text", "word", "[I", true)
  | 2 => ("RingBars$Text", "first", "[I", true)
  | 3 => ("RingBars$Text", "second", "[I", true)
  | 4 => ("RingBars$Text", "third", "[I", true)
  | 5 => ("RingBars$Text", "sumFrom", "[I", true)
  | 6 => ("RingBars$Text", "whenFrom", "[I", true)
  | 7 => ("RingBars$Text", "whenTo", "[I", true)
  | 8 => ("RingBars$Text", "steps", "[I", true)
  | _ => ("RingBars$Text", "stepCount", "I", false)
def tyX7 : Nat → FieldType := fun k => match k with
  | 0 => .int
  | 1 => .array .int
  | 2 => .array .int
  | 3 => .array .int
  | 4 => .array .int
  | 5 => .array .int
  | 6 => .array .int
  | 7 => .array .int
  | 8 => .array .int
  | _ => .int
theorem nmX7 : ∀ a, a < 10 → ∀ b, b < 10 → a ≠ b → (TX7 a).2.1 ≠ (TX7 b).2.1 := by decide +kernel
theorem tyX7_ok : ∀ k, k < 10 → parseFieldDescriptor (TX7 k).2.2.1 = some (tyX7 k) := by decide +kernel
abbrev cX7_init : ByteArray := prog_9_method_1_code
def yX7_init : MethodName := ⟨RX7, "<init>", "()V"⟩
abbrev cX7_clear : ByteArray := prog_9_method_2_code
def yX7_clear : MethodName := ⟨RX7, "clear", "()V"⟩
abbrev cX7_addStep : ByteArray := prog_9_method_3_code
def yX7_addStep : MethodName := ⟨RX7, "addStep", "(II)V"⟩
abbrev cX7_hasWhen : ByteArray := prog_9_method_4_code
def yX7_hasWhen : MethodName := ⟨RX7, "hasWhen", "(I)Z"⟩
abbrev cX7_copyFrom : ByteArray := prog_9_method_5_code
def yX7_copyFrom : MethodName := ⟨RX7, "copyFrom", "(LRingBars$Text;)V"⟩
def RX8 : String := "RingBars$World"
def TX8 : u_T := fun k => match k with
  | 0 => ("RingBars$World", "bars", "[LRingBars$Bar;", true)
  | 1 => ("RingBars$World", "barCount", "I", false)
  | 2 => ("RingBars$World", "laws", "[LRingBars$Text;", true)
  | 3 => ("RingBars$World", "jobs", "[LRingBars$Text;", true)
  | 4 => ("RingBars$World", "inForce", "I", false)
  | 5 => ("RingBars$World", "slack", "I", false)
  | 6 => ("RingBars$World", "fault", "I", false)
  | 7 => ("RingBars$World", "faultPlace", "I", false)
  | 8 => ("RingBars$World", "nightHeat", "[I", true)
  | 9 => ("RingBars$World", "nightWet", "[I", true)
  | 10 => ("RingBars$World", "nightCount", "I", false)
  | 11 => ("RingBars$World", "noteGoal", "[I", true)
  | 12 => ("RingBars$World", "noteLength", "[I", true)
  | 13 => ("RingBars$World", "noteCount", "I", false)
  | 14 => ("RingBars$World", "blankLength", "[I", true)
  | 15 => ("RingBars$World", "blankRing", "[I", true)
  | _ => ("RingBars$World", "blankCount", "I", false)
def tyX8 : Nat → FieldType := fun k => match k with
  | 0 => .array (.object "RingBars$Bar")
  | 1 => .int
  | 2 => .array (.object "RingBars$Text")
  | 3 => .array (.object "RingBars$Text")
  | 4 => .int
  | 5 => .int
  | 6 => .int
  | 7 => .int
  | 8 => .array .int
  | 9 => .array .int
  | 10 => .int
  | 11 => .array .int
  | 12 => .array .int
  | 13 => .int
  | 14 => .array .int
  | 15 => .array .int
  | _ => .int
theorem nmX8 : ∀ a, a < 17 → ∀ b, b < 17 → a ≠ b → (TX8 a).2.1 ≠ (TX8 b).2.1 := by decide +kernel
theorem tyX8_ok : ∀ k, k < 17 → parseFieldDescriptor (TX8 k).2.2.1 = some (tyX8 k) := by decide +kernel
abbrev cX8_init : ByteArray := prog_10_method_1_code
def yX8_init : MethodName := ⟨RX8, "<init>", "()V"⟩
abbrev cX8_law : ByteArray := prog_10_method_2_code
def yX8_law : MethodName := ⟨RX8, "law", "()LRingBars$Text;"⟩
abbrev cX8_copyFrom : ByteArray := prog_10_method_3_code
def yX8_copyFrom : MethodName := ⟨RX8, "copyFrom", "(LRingBars$World;)V"⟩
def RX9 : String := "RingBars"
def TX9 : u_T := fun k => match k with
  | 0 => ("RingBars", "now", "LRingBars$World;", true)
  | 1 => ("RingBars", "kept", "LRingBars$World;", false)
  | 2 => ("RingBars", "tape", "[I", true)
  | 3 => ("RingBars", "tapeLength", "I", false)
  | 4 => ("RingBars", "reader", "LRingBars$Reader;", true)
  | 5 => ("RingBars", "sums", "LRingBars$Sums;", true)
  | 6 => ("RingBars", "passSearch", "LRingBars$PassSearch;", true)
  | 7 => ("RingBars", "grainSearch", "LRingBars$GrainSearch;", true)
  | 8 => ("RingBars", "setSearch", "LRingBars$SetSearch;", true)
  | 9 => ("RingBars", "lowTones", "[I", true)
  | 10 => ("RingBars", "points", "[I", true)
  | _ => ("RingBars", "thinner", "[I", true)
def tyX9 : Nat → FieldType := fun k => match k with
  | 0 => .object "RingBars$World"
  | 1 => .object "RingBars$World"
  | 2 => .array .int
  | 3 => .int
  | 4 => .object "RingBars$Reader"
  | 5 => .object "RingBars$Sums"
  | 6 => .object "RingBars$PassSearch"
  | 7 => .object "RingBars$GrainSearch"
  | 8 => .object "RingBars$SetSearch"
  | 9 => .array .int
  | 10 => .array .int
  | _ => .array .int
theorem nmX9 : ∀ a, a < 12 → ∀ b, b < 12 → a ≠ b → (TX9 a).2.1 ≠ (TX9 b).2.1 := by decide +kernel
theorem tyX9_ok : ∀ k, k < 12 → parseFieldDescriptor (TX9 k).2.2.1 = some (tyX9 k) := by decide +kernel
abbrev cX9_init : ByteArray := prog_1_method_1_code
def yX9_init : MethodName := ⟨RX9, "<init>", "()V"⟩
abbrev cX9_bar : ByteArray := prog_1_method_2_code
def yX9_bar : MethodName := ⟨RX9, "bar", "(I)I"⟩
abbrev cX9_slice : ByteArray := prog_1_method_3_code
def yX9_slice : MethodName := ⟨RX9, "slice", "(IIIII)Z"⟩
abbrev cX9_wax : ByteArray := prog_1_method_4_code
def yX9_wax : MethodName := ⟨RX9, "wax", "(III)Z"⟩
abbrev cX9_of : ByteArray := prog_1_method_5_code
def yX9_of : MethodName := ⟨RX9, "of", "(III)I"⟩
abbrev cX9_feed : ByteArray := prog_1_method_6_code
def yX9_feed : MethodName := ⟨RX9, "feed", "(IIIII)I"⟩
abbrev cX9_end : ByteArray := prog_1_method_7_code
def yX9_end : MethodName := ⟨RX9, "end", "(I)Z"⟩
abbrev cX9_text : ByteArray := prog_1_method_8_code
def yX9_text : MethodName := ⟨RX9, "text", "(II)I"⟩
abbrev cX9_fault : ByteArray := prog_1_method_9_code
def yX9_fault : MethodName := ⟨RX9, "fault", "(I)I"⟩
abbrev cX9_force : ByteArray := prog_1_method_10_code
def yX9_force : MethodName := ⟨RX9, "force", "(I)I"⟩
abbrev cX9_tells : ByteArray := prog_1_method_11_code
def yX9_tells : MethodName := ⟨RX9, "tells", "(IIIII)I"⟩
abbrev cX9_tone : ByteArray := prog_1_method_12_code
def yX9_tone : MethodName := ⟨RX9, "tone", "(II)I"⟩
abbrev cX9_shave : ByteArray := prog_1_method_13_code
def yX9_shave : MethodName := ⟨RX9, "shave", "(III)I"⟩
abbrev cX9_pass : ByteArray := prog_1_method_14_code
def yX9_pass : MethodName := ⟨RX9, "pass", "(III)I"⟩
abbrev cX9_goal : ByteArray := prog_1_method_15_code
def yX9_goal : MethodName := ⟨RX9, "goal", "(III)Z"⟩
abbrev cX9_slack : ByteArray := prog_1_method_16_code
def yX9_slack : MethodName := ⟨RX9, "slack", "(I)Z"⟩
abbrev cX9_state : ByteArray := prog_1_method_17_code
def yX9_state : MethodName := ⟨RX9, "state", "(II)I"⟩
abbrev cX9_takes : ByteArray := prog_1_method_18_code
def yX9_takes : MethodName := ⟨RX9, "takes", "(III)I"⟩
abbrev cX9_job : ByteArray := prog_1_method_19_code
def yX9_job : MethodName := ⟨RX9, "job", "(II)I"⟩
abbrev cX9_fewest : ByteArray := prog_1_method_20_code
def yX9_fewest : MethodName := ⟨RX9, "fewest", "(II)I"⟩
abbrev cX9_tap : ByteArray := prog_1_method_21_code
def yX9_tap : MethodName := ⟨RX9, "tap", "(III)I"⟩
abbrev cX9_fits : ByteArray := prog_1_method_22_code
def yX9_fits : MethodName := ⟨RX9, "fits", "(IIII)I"⟩
abbrev cX9_off : ByteArray := prog_1_method_23_code
def yX9_off : MethodName := ⟨RX9, "off", "(I)I"⟩
abbrev cX9_still : ByteArray := prog_1_method_24_code
def yX9_still : MethodName := ⟨RX9, "still", "(III)I"⟩
abbrev cX9_holes : ByteArray := prog_1_method_25_code
def yX9_holes : MethodName := ⟨RX9, "holes", "(III)Z"⟩
abbrev cX9_tube : ByteArray := prog_1_method_26_code
def yX9_tube : MethodName := ⟨RX9, "tube", "(III)Z"⟩
abbrev cX9_in : ByteArray := prog_1_method_27_code
def yX9_in : MethodName := ⟨RX9, "in", "(IIII)I"⟩
abbrev cX9_night : ByteArray := prog_1_method_28_code
def yX9_night : MethodName := ⟨RX9, "night", "(II)I"⟩
abbrev cX9_nights : ByteArray := prog_1_method_29_code
def yX9_nights : MethodName := ⟨RX9, "nights", "(II)I"⟩
abbrev cX9_note : ByteArray := prog_1_method_30_code
def yX9_note : MethodName := ⟨RX9, "note", "(II)I"⟩
abbrev cX9_blank : ByteArray := prog_1_method_31_code
def yX9_blank : MethodName := ⟨RX9, "blank", "(II)I"⟩
abbrev cX9_set : ByteArray := prog_1_method_32_code
def yX9_set : MethodName := ⟨RX9, "set", "(II)I"⟩
abbrev cX9_down : ByteArray := prog_1_method_33_code
def yX9_down : MethodName := ⟨RX9, "down", "(I)I"⟩
abbrev cX9_enough : ByteArray := prog_1_method_34_code
def yX9_enough : MethodName := ⟨RX9, "enough", "(III)I"⟩
abbrev cX9_image : ByteArray := prog_1_method_35_code
def yX9_image : MethodName := ⟨RX9, "image", "(Z)Z"⟩
abbrev cX9_look : ByteArray := prog_1_method_36_code
def yX9_look : MethodName := ⟨RX9, "look", "(I)I"⟩
abbrev cX9_within : ByteArray := prog_1_method_37_code
def yX9_within : MethodName := ⟨RX9, "within", "(III)Z"⟩
abbrev cX9_isTone : ByteArray := prog_1_method_38_code
def yX9_isTone : MethodName := ⟨RX9, "isTone", "(I)Z"⟩
abbrev cX9_isAir : ByteArray := prog_1_method_39_code
def yX9_isAir : MethodName := ⟨RX9, "isAir", "(II)Z"⟩
abbrev cX9_ratio : ByteArray := prog_1_method_40_code
def yX9_ratio : MethodName := ⟨RX9, "ratio", "(II)I"⟩
abbrev cX9_barAt : ByteArray := prog_1_method_41_code
def yX9_barAt : MethodName := ⟨RX9, "barAt", "(I)LRingBars$Bar;"⟩
abbrev cX9_textAt : ByteArray := prog_1_method_42_code
def yX9_textAt : MethodName := ⟨RX9, "textAt", "(II)LRingBars$Text;"⟩
abbrev cX9_addBytes : ByteArray := prog_1_method_43_code
def yX9_addBytes : MethodName := ⟨RX9, "addBytes", "(I)V"⟩
abbrev cX9_toneNow : ByteArray := prog_1_method_44_code
def yX9_toneNow : MethodName := ⟨RX9, "toneNow", "(LRingBars$Bar;I)I"⟩
abbrev cX9_isLost : ByteArray := prog_1_method_45_code
def yX9_isLost : MethodName := ⟨RX9, "isLost", "(LRingBars$Bar;)Z"⟩
abbrev cX9_isTrue : ByteArray := prog_1_method_46_code
def yX9_isTrue : MethodName := ⟨RX9, "isTrue", "(LRingBars$Bar;)Z"⟩
abbrev cX9_countLost : ByteArray := prog_1_method_47_code
def yX9_countLost : MethodName := ⟨RX9, "countLost", "()I"⟩
abbrev cX9_countTrue : ByteArray := prog_1_method_48_code
def yX9_countTrue : MethodName := ⟨RX9, "countTrue", "()I"⟩
abbrev cX9_takeOff : ByteArray := prog_1_method_49_code
def yX9_takeOff : MethodName := ⟨RX9, "takeOff", "(LRingBars$Bar;II)I"⟩
abbrev cX9_comesTrue : ByteArray := prog_1_method_50_code
def yX9_comesTrue : MethodName := ⟨RX9, "comesTrue", "(LRingBars$Text;ILRingBars$Bar;)Z"⟩
abbrev cX9_doLine : ByteArray := prog_1_method_51_code
def yX9_doLine : MethodName := ⟨RX9, "doLine", "(LRingBars$Text;ILRingBars$Bar;)V"⟩
abbrev cX9_offOf : ByteArray := prog_1_method_52_code
def yX9_offOf : MethodName := ⟨RX9, "offOf", "(LRingBars$Text;)I"⟩
abbrev cX9_findPoints : ByteArray := prog_1_method_53_code
def yX9_findPoints : MethodName := ⟨RX9, "findPoints", "(LRingBars$Bar;I)I"⟩
abbrev cX9_amiss : ByteArray := prog_1_method_54_code
def yX9_amiss : MethodName := ⟨RX9, "amiss", "(LRingBars$Bar;)I"⟩
abbrev cX9_driftIn : ByteArray := prog_1_method_55_code
def yX9_driftIn : MethodName := ⟨RX9, "driftIn", "(II)I"⟩
abbrev cX9_drifted : ByteArray := prog_1_method_56_code
def yX9_drifted : MethodName := ⟨RX9, "drifted", "(II)I"⟩
abbrev cX9_air : ByteArray := prog_1_method_57_code
def yX9_air : MethodName := ⟨RX9, "air", "(I)I"⟩
abbrev cX9_beat : ByteArray := prog_1_method_58_code
def yX9_beat : MethodName := ⟨RX9, "beat", "(LRingBars$Bar;III)I"⟩
abbrev cX9_shortest : ByteArray := prog_1_method_59_code
def yX9_shortest : MethodName := ⟨RX9, "shortest", "(II)I"⟩
abbrev cX9_stopper : ByteArray := prog_1_method_60_code
def yX9_stopper : MethodName := ⟨RX9, "stopper", "(II)I"⟩
abbrev cX9_fillLowTones : ByteArray := prog_1_method_61_code
def yX9_fillLowTones : MethodName := ⟨RX9, "fillLowTones", "()V"⟩
abbrev cX9_beatIn : ByteArray := prog_1_method_62_code
def yX9_beatIn : MethodName := ⟨RX9, "beatIn", "(IIII)I"⟩
abbrev cX9_worst : ByteArray := prog_1_method_63_code
def yX9_worst : MethodName := ⟨RX9, "worst", "(II)I"⟩
abbrev cX9_suiting : ByteArray := prog_1_method_64_code
def yX9_suiting : MethodName := ⟨RX9, "suiting", "(I)I"⟩
abbrev cX9_apart : ByteArray := prog_1_method_65_code
def yX9_apart : MethodName := ⟨RX9, "apart", "()I"⟩
abbrev cX9_together : ByteArray := prog_1_method_66_code
def yX9_together : MethodName := ⟨RX9, "together", "(I)I"⟩
def RX10 : String := "RingBarsModel"
def TX10 : u_T := fun k => match k with
  | 0 => ("RingBarsModel", "told", "I", false)
  | 1 => ("RingBarsModel", "bars", "I", false)
  | 2 => ("RingBarsModel", "force", "I", false)
  | 3 => ("RingBarsModel", "slack", "I", false)
  | 4 => ("RingBarsModel", "slices", "[I", true)
  | 5 => ("RingBarsModel", "thick", "[I", true)
  | 6 => ("RingBarsModel", "grain", "[I", true)
  | 7 => ("RingBarsModel", "heavy", "[I", true)
  | 8 => ("RingBarsModel", "wax", "[I", true)
  | 9 => ("RingBarsModel", "goals", "[I", true)
  | 10 => ("RingBarsModel", "passes", "[I", true)
  | 11 => ("RingBarsModel", "passAt", "[I", true)
  | 12 => ("RingBarsModel", "passDepth", "[I", true)
  | 13 => ("RingBarsModel", "lostBy", "[I", true)
  | 14 => ("RingBarsModel", "holeOne", "[I", true)
  | 15 => ("RingBarsModel", "holeTwo", "[I", true)
  | 16 => ("RingBarsModel", "tubes", "[I", true)
  | 17 => ("RingBarsModel", "tape", "[I", true)
  | 18 => ("RingBarsModel", "taped", "I", false)
  | 19 => ("RingBarsModel", "spot", "I", false)
  | 20 => ("RingBarsModel", "from", "I", false)
  | 21 => ("RingBarsModel", "token", "I", false)
  | 22 => ("RingBarsModel", "value", "I", false)
  | 23 => ("RingBarsModel", "words", "[I", true)
  | 24 => ("RingBarsModel", "lineMany", "[I", true)
  | 25 => ("RingBarsModel", "lineSort", "[I", true)
  | 26 => ("RingBarsModel", "lineOne", "[I", true)
  | 27 => ("RingBarsModel", "lineTwo", "[I", true)
  | 28 => ("RingBarsModel", "lineThree", "[I", true)
  | 29 => ("RingBarsModel", "lineFrom", "[I", true)
  | 30 => ("RingBarsModel", "lineSum", "[I", true)
  | 31 => ("RingBarsModel", "lineTo", "[I", true)
  | 32 => ("RingBarsModel", "op", "[I", true)
  | 33 => ("RingBarsModel", "arg", "[I", true)
  | 34 => ("RingBarsModel", "isJob", "Z", false)
  | 35 => ("RingBarsModel", "many", "I", false)
  | 36 => ("RingBarsModel", "open", "I", false)
  | 37 => ("RingBarsModel", "pending", "[I", true)
  | 38 => ("RingBarsModel", "pendings", "I", false)
  | 39 => ("RingBarsModel", "readFault", "I", false)
  | 40 => ("RingBarsModel", "readPlace", "I", false)
  | 41 => ("RingBarsModel", "faultKind", "I", false)
  | 42 => ("RingBarsModel", "faultPlace", "I", false)
  | 43 => ("RingBarsModel", "asked", "[I", true)
  | 44 => ("RingBarsModel", "stack", "[I", true)
  | 45 => ("RingBarsModel", "row", "[I", true)
  | 46 => ("RingBarsModel", "bestRow", "[I", true)
  | 47 => ("RingBarsModel", "bendBy", "[I", true)
  | 48 => ("RingBarsModel", "massBy", "[I", true)
  | 49 => ("RingBarsModel", "offBy", "[I", true)
  | 50 => ("RingBarsModel", "taps", "[I", true)
  | 51 => ("RingBarsModel", "tapTone", "[I", true)
  | 52 => ("RingBarsModel", "tapIs", "[I", true)
  | 53 => ("RingBarsModel", "tapThick", "[I", true)
  | 54 => ("RingBarsModel", "tapWax", "[I", true)
  | 55 => ("RingBarsModel", "grainsKept", "[I", true)
  | 56 => ("RingBarsModel", "fitMany", "I", false)
  | 57 => ("RingBarsModel", "fitted", "[I", true)
  | 58 => ("RingBarsModel", "heard", "[I", true)
  | 59 => ("RingBarsModel", "nightMany", "I", false)
  | 60 => ("RingBarsModel", "nightHeat", "[I", true)
  | 61 => ("RingBarsModel", "nightWet", "[I", true)
  | 62 => ("RingBarsModel", "notes", "I", false)
  | 63 => ("RingBarsModel", "noteGoal", "[I", true)
  | 64 => ("RingBarsModel", "noteLong", "[I", true)
  | 65 => ("RingBarsModel", "blanks", "I", false)
  | 66 => ("RingBarsModel", "blankLong", "[I", true)
  | 67 => ("RingBarsModel", "blankRing", "[I", true)
  | 68 => ("RingBarsModel", "given", "[I", true)
  | 69 => ("RingBarsModel", "bestGiven", "[I", true)
  | 70 => ("RingBarsModel", "hasImage", "Z", false)
  | 71 => ("RingBarsModel", "isTaking", "Z", false)
  | 72 => ("RingBarsModel", "imageAt", "I", false)
  | _ => ("RingBarsModel", "images", "[I", true)
def tyX10 : Nat → FieldType := fun k => match k with
  | 0 => .int
  | 1 => .int
  | 2 => .int
  | 3 => .int
  | 4 => .array .int
  | 5 => .array .int
  | 6 => .array .int
  | 7 => .array .int
  | 8 => .array .int
  | 9 => .array .int
  | 10 => .array .int
  | 11 => .array .int
  | 12 => .array .int
  | 13 => .array .int
  | 14 => .array .int
  | 15 => .array .int
  | 16 => .array .int
  | 17 => .array .int
  | 18 => .int
  | 19 => .int
  | 20 => .int
  | 21 => .int
  | 22 => .int
  | 23 => .array .int
  | 24 => .array .int
  | 25 => .array .int
  | 26 => .array .int
  | 27 => .array .int
  | 28 => .array .int
  | 29 => .array .int
  | 30 => .array .int
  | 31 => .array .int
  | 32 => .array .int
  | 33 => .array .int
  | 34 => .boolean
  | 35 => .int
  | 36 => .int
  | 37 => .array .int
  | 38 => .int
  | 39 => .int
  | 40 => .int
  | 41 => .int
  | 42 => .int
  | 43 => .array .int
  | 44 => .array .int
  | 45 => .array .int
  | 46 => .array .int
  | 47 => .array .int
  | 48 => .array .int
  | 49 => .array .int
  | 50 => .array .int
  | 51 => .array .int
  | 52 => .array .int
  | 53 => .array .int
  | 54 => .array .int
  | 55 => .array .int
  | 56 => .int
  | 57 => .array .int
  | 58 => .array .int
  | 59 => .int
  | 60 => .array .int
  | 61 => .array .int
  | 62 => .int
  | 63 => .array .int
  | 64 => .array .int
  | 65 => .int
  | 66 => .array .int
  | 67 => .array .int
  | 68 => .array .int
  | 69 => .array .int
  | 70 => .boolean
  | 71 => .boolean
  | 72 => .int
  | _ => .array .int
theorem nmX10 : ∀ a, a < 74 → ∀ b, b < 74 → a ≠ b → (TX10 a).2.1 ≠ (TX10 b).2.1 := by decide +kernel
theorem tyX10_ok : ∀ k, k < 74 → parseFieldDescriptor (TX10 k).2.2.1 = some (tyX10 k) := by decide +kernel
abbrev cX10_init : ByteArray := prog_12_method_1_code
def yX10_init : MethodName := ⟨RX10, "<init>", "()V"⟩
abbrev cX10_isIn : ByteArray := prog_12_method_3_code
def yX10_isIn : MethodName := ⟨RX10, "isIn", "(III)Z"⟩
abbrev cX10_size : ByteArray := prog_12_method_4_code
def yX10_size : MethodName := ⟨RX10, "size", "(I)I"⟩
abbrev cX10_isBar : ByteArray := prog_12_method_5_code
def yX10_isBar : MethodName := ⟨RX10, "isBar", "(I)Z"⟩
abbrev cX10_isSlice : ByteArray := prog_12_method_6_code
def yX10_isSlice : MethodName := ⟨RX10, "isSlice", "(II)Z"⟩
abbrev cX10_isTone : ByteArray := prog_12_method_7_code
def yX10_isTone : MethodName := ⟨RX10, "isTone", "(I)Z"⟩
abbrev cX10_bar : ByteArray := prog_12_method_8_code
def yX10_bar : MethodName := ⟨RX10, "bar", "(I)I"⟩
abbrev cX10_slice : ByteArray := prog_12_method_9_code
def yX10_slice : MethodName := ⟨RX10, "slice", "(IIIII)Z"⟩
abbrev cX10_wax : ByteArray := prog_12_method_10_code
def yX10_wax : MethodName := ⟨RX10, "wax", "(III)Z"⟩
abbrev cX10_of : ByteArray := prog_12_method_11_code
def yX10_of : MethodName := ⟨RX10, "of", "(III)I"⟩
abbrev cX10_puts : ByteArray := prog_12_method_12_code
def yX10_puts : MethodName := ⟨RX10, "puts", "(I)V"⟩
abbrev cX10_feed : ByteArray := prog_12_method_13_code
def yX10_feed : MethodName := ⟨RX10, "feed", "(IIIII)I"⟩
abbrev cX10_end : ByteArray := prog_12_method_14_code
def yX10_end : MethodName := ⟨RX10, "end", "(I)Z"⟩
abbrev cX10_raw : ByteArray := prog_12_method_15_code
def yX10_raw : MethodName := ⟨RX10, "raw", "(I)I"⟩
abbrev cX10_isLetter : ByteArray := prog_12_method_16_code
def yX10_isLetter : MethodName := ⟨RX10, "isLetter", "(I)Z"⟩
abbrev cX10_isDigit : ByteArray := prog_12_method_17_code
def yX10_isDigit : MethodName := ⟨RX10, "isDigit", "(I)Z"⟩
abbrev cX10_isMarkSign : ByteArray := prog_12_method_18_code
def yX10_isMarkSign : MethodName := ⟨RX10, "isMarkSign", "(I)Z"⟩
abbrev cX10_wordAt : ByteArray := prog_12_method_19_code
def yX10_wordAt : MethodName := ⟨RX10, "wordAt", "(II)I"⟩
abbrev cX10_reads : ByteArray := prog_12_method_20_code
def yX10_reads : MethodName := ⟨RX10, "reads", "()V"⟩
abbrev cX10_fails : ByteArray := prog_12_method_21_code
def yX10_fails : MethodName := ⟨RX10, "fails", "(I)I"⟩
abbrev cX10_isWord : ByteArray := prog_12_method_22_code
def yX10_isWord : MethodName := ⟨RX10, "isWord", "(I)Z"⟩
abbrev cX10_isSign : ByteArray := prog_12_method_23_code
def yX10_isSign : MethodName := ⟨RX10, "isSign", "(I)Z"⟩
abbrev cX10_emits : ByteArray := prog_12_method_24_code
def yX10_emits : MethodName := ⟨RX10, "emits", "(II)V"⟩
abbrev cX10_readUnit : ByteArray := prog_12_method_25_code
def yX10_readUnit : MethodName := ⟨RX10, "readUnit", "()I"⟩
abbrev cX10_readProduct : ByteArray := prog_12_method_26_code
def yX10_readProduct : MethodName := ⟨RX10, "readProduct", "()I"⟩
abbrev cX10_readSum : ByteArray := prog_12_method_27_code
def yX10_readSum : MethodName := ⟨RX10, "readSum", "()I"⟩
abbrev cX10_readCompared : ByteArray := prog_12_method_28_code
def yX10_readCompared : MethodName := ⟨RX10, "readCompared", "()I"⟩
abbrev cX10_waits : ByteArray := prog_12_method_29_code
def yX10_waits : MethodName := ⟨RX10, "waits", "(I)V"⟩
abbrev cX10_settles : ByteArray := prog_12_method_30_code
def yX10_settles : MethodName := ⟨RX10, "settles", "(I)V"⟩
abbrev cX10_readAny : ByteArray := prog_12_method_31_code
def yX10_readAny : MethodName := ⟨RX10, "readAny", "()I"⟩
abbrev cX10_readNumber : ByteArray := prog_12_method_32_code
def yX10_readNumber : MethodName := ⟨RX10, "readNumber", "(II)I"⟩
abbrev cX10_isBegin : ByteArray := prog_12_method_33_code
def yX10_isBegin : MethodName := ⟨RX10, "isBegin", "()Z"⟩
abbrev cX10_readNumbers : ByteArray := prog_12_method_34_code
def yX10_readNumbers : MethodName := ⟨RX10, "readNumbers", "(II)I"⟩
abbrev cX10_readLine : ByteArray := prog_12_method_35_code
def yX10_readLine : MethodName := ⟨RX10, "readLine", "(I)I"⟩
abbrev cX10_readText : ByteArray := prog_12_method_36_code
def yX10_readText : MethodName := ⟨RX10, "readText", "()I"⟩
abbrev cX10_text : ByteArray := prog_12_method_37_code
def yX10_text : MethodName := ⟨RX10, "text", "(II)I"⟩
abbrev cX10_fault : ByteArray := prog_12_method_38_code
def yX10_fault : MethodName := ⟨RX10, "fault", "(I)I"⟩
abbrev cX10_twoOf : ByteArray := prog_12_method_39_code
def yX10_twoOf : MethodName := ⟨RX10, "twoOf", "(III)I"⟩
abbrev cX10_worth : ByteArray := prog_12_method_40_code
def yX10_worth : MethodName := ⟨RX10, "worth", "(III)I"⟩
abbrev cX10_isSo : ByteArray := prog_12_method_41_code
def yX10_isSo : MethodName := ⟨RX10, "isSo", "(II)Z"⟩
abbrev cX10_tellsBy : ByteArray := prog_12_method_42_code
def yX10_tellsBy : MethodName := ⟨RX10, "tellsBy", "(III)I"⟩
abbrev cX10_asks : ByteArray := prog_12_method_43_code
def yX10_asks : MethodName := ⟨RX10, "asks", "(IIIIII)V"⟩
abbrev cX10_asksSlice : ByteArray := prog_12_method_44_code
def yX10_asksSlice : MethodName := ⟨RX10, "asksSlice", "(II)V"⟩
abbrev cX10_toneBy : ByteArray := prog_12_method_45_code
def yX10_toneBy : MethodName := ⟨RX10, "toneBy", "(III)I"⟩
abbrev cX10_toneNow : ByteArray := prog_12_method_46_code
def yX10_toneNow : MethodName := ⟨RX10, "toneNow", "(II)I"⟩
abbrev cX10_isLaw : ByteArray := prog_12_method_47_code
def yX10_isLaw : MethodName := ⟨RX10, "isLaw", "(I)Z"⟩
abbrev cX10_force : ByteArray := prog_12_method_48_code
def yX10_force : MethodName := ⟨RX10, "force", "(I)I"⟩
abbrev cX10_tells : ByteArray := prog_12_method_49_code
def yX10_tells : MethodName := ⟨RX10, "tells", "(IIIII)I"⟩
abbrev cX10_tone : ByteArray := prog_12_method_50_code
def yX10_tone : MethodName := ⟨RX10, "tone", "(II)I"⟩
abbrev cX10_isLost : ByteArray := prog_12_method_51_code
def yX10_isLost : MethodName := ⟨RX10, "isLost", "(I)Z"⟩
abbrev cX10_isTrue : ByteArray := prog_12_method_52_code
def yX10_isTrue : MethodName := ⟨RX10, "isTrue", "(I)Z"⟩
abbrev cX10_canPass : ByteArray := prog_12_method_53_code
def yX10_canPass : MethodName := ⟨RX10, "canPass", "(III)Z"⟩
abbrev cX10_takesOff : ByteArray := prog_12_method_54_code
def yX10_takesOff : MethodName := ⟨RX10, "takesOff", "(III)V"⟩
abbrev cX10_shave : ByteArray := prog_12_method_55_code
def yX10_shave : MethodName := ⟨RX10, "shave", "(III)I"⟩
abbrev cX10_pass : ByteArray := prog_12_method_56_code
def yX10_pass : MethodName := ⟨RX10, "pass", "(III)I"⟩
abbrev cX10_goal : ByteArray := prog_12_method_57_code
def yX10_goal : MethodName := ⟨RX10, "goal", "(III)Z"⟩
abbrev cX10_slack : ByteArray := prog_12_method_58_code
def yX10_slack : MethodName := ⟨RX10, "slack", "(I)Z"⟩
abbrev cX10_takes : ByteArray := prog_12_method_59_code
def yX10_takes : MethodName := ⟨RX10, "takes", "(III)I"⟩
abbrev cX10_asksJob : ByteArray := prog_12_method_60_code
def yX10_asksJob : MethodName := ⟨RX10, "asksJob", "(I)V"⟩
abbrev cX10_doesLine : ByteArray := prog_12_method_61_code
def yX10_doesLine : MethodName := ⟨RX10, "doesLine", "(II)V"⟩
abbrev cX10_job : ByteArray := prog_12_method_62_code
def yX10_job : MethodName := ⟨RX10, "job", "(II)I"⟩
abbrev cX10_findsTable : ByteArray := prog_12_method_63_code
def yX10_findsTable : MethodName := ⟨RX10, "findsTable", "(I)V"⟩
abbrev cX10_toneByTable : ByteArray := prog_12_method_64_code
def yX10_toneByTable : MethodName := ⟨RX10, "toneByTable", "(II)I"⟩
abbrev cX10_wouldBe : ByteArray := prog_12_method_65_code
def yX10_wouldBe : MethodName := ⟨RX10, "wouldBe", "(I)I"⟩
abbrev cX10_does : ByteArray := prog_12_method_66_code
def yX10_does : MethodName := ⟨RX10, "does", "(II)Z"⟩
abbrev cX10_goesOn : ByteArray := prog_12_method_67_code
def yX10_goesOn : MethodName := ⟨RX10, "goesOn", "(II)Z"⟩
abbrev cX10_findsFewest : ByteArray := prog_12_method_68_code
def yX10_findsFewest : MethodName := ⟨RX10, "findsFewest", "(I)I"⟩
abbrev cX10_fewest : ByteArray := prog_12_method_69_code
def yX10_fewest : MethodName := ⟨RX10, "fewest", "(II)I"⟩
abbrev cX10_tap : ByteArray := prog_12_method_70_code
def yX10_tap : MethodName := ⟨RX10, "tap", "(III)I"⟩
abbrev cX10_toneOf : ByteArray := prog_12_method_71_code
def yX10_toneOf : MethodName := ⟨RX10, "toneOf", "(III)I"⟩
abbrev cX10_fitsAll : ByteArray := prog_12_method_72_code
def yX10_fitsAll : MethodName := ⟨RX10, "fitsAll", "(II)Z"⟩
abbrev cX10_findsFits : ByteArray := prog_12_method_73_code
def yX10_findsFits : MethodName := ⟨RX10, "findsFits", "(III)V"⟩
abbrev cX10_unlikeBy : ByteArray := prog_12_method_74_code
def yX10_unlikeBy : MethodName := ⟨RX10, "unlikeBy", "(II)I"⟩
abbrev cX10_nextPass : ByteArray := prog_12_method_75_code
def yX10_nextPass : MethodName := ⟨RX10, "nextPass", "(I)I"⟩
abbrev cX10_sureOf : ByteArray := prog_12_method_76_code
def yX10_sureOf : MethodName := ⟨RX10, "sureOf", "(I)I"⟩
abbrev cX10_fits : ByteArray := prog_12_method_77_code
def yX10_fits : MethodName := ⟨RX10, "fits", "(IIII)I"⟩
abbrev cX10_offOf : ByteArray := prog_12_method_78_code
def yX10_offOf : MethodName := ⟨RX10, "offOf", "(I)I"⟩
abbrev cX10_off : ByteArray := prog_12_method_79_code
def yX10_off : MethodName := ⟨RX10, "off", "(I)I"⟩
abbrev cX10_sways : ByteArray := prog_12_method_80_code
def yX10_sways : MethodName := ⟨RX10, "sways", "(III)Z"⟩
abbrev cX10_isStill : ByteArray := prog_12_method_81_code
def yX10_isStill : MethodName := ⟨RX10, "isStill", "(III)Z"⟩
abbrev cX10_stillAt : ByteArray := prog_12_method_82_code
def yX10_stillAt : MethodName := ⟨RX10, "stillAt", "(III)I"⟩
abbrev cX10_stills : ByteArray := prog_12_method_83_code
def yX10_stills : MethodName := ⟨RX10, "stills", "(II)I"⟩
abbrev cX10_still : ByteArray := prog_12_method_84_code
def yX10_still : MethodName := ⟨RX10, "still", "(III)I"⟩
abbrev cX10_holes : ByteArray := prog_12_method_85_code
def yX10_holes : MethodName := ⟨RX10, "holes", "(III)Z"⟩
abbrev cX10_amiss : ByteArray := prog_12_method_86_code
def yX10_amiss : MethodName := ⟨RX10, "amiss", "(I)I"⟩
abbrev cX10_state : ByteArray := prog_12_method_87_code
def yX10_state : MethodName := ⟨RX10, "state", "(II)I"⟩
abbrev cX10_isHeat : ByteArray := prog_12_method_88_code
def yX10_isHeat : MethodName := ⟨RX10, "isHeat", "(I)Z"⟩
abbrev cX10_isWet : ByteArray := prog_12_method_89_code
def yX10_isWet : MethodName := ⟨RX10, "isWet", "(I)Z"⟩
abbrev cX10_drifted : ByteArray := prog_12_method_90_code
def yX10_drifted : MethodName := ⟨RX10, "drifted", "(III)I"⟩
abbrev cX10_sounds : ByteArray := prog_12_method_91_code
def yX10_sounds : MethodName := ⟨RX10, "sounds", "(II)I"⟩
abbrev cX10_beatOf : ByteArray := prog_12_method_92_code
def yX10_beatOf : MethodName := ⟨RX10, "beatOf", "(IIII)I"⟩
abbrev cX10_tube : ByteArray := prog_12_method_93_code
def yX10_tube : MethodName := ⟨RX10, "tube", "(III)Z"⟩
abbrev cX10_in : ByteArray := prog_12_method_94_code
def yX10_in : MethodName := ⟨RX10, "in", "(IIII)I"⟩
abbrev cX10_night : ByteArray := prog_12_method_95_code
def yX10_night : MethodName := ⟨RX10, "night", "(II)I"⟩
abbrev cX10_worstOf : ByteArray := prog_12_method_96_code
def yX10_worstOf : MethodName := ⟨RX10, "worstOf", "(II)I"⟩
abbrev cX10_worstBeat : ByteArray := prog_12_method_97_code
def yX10_worstBeat : MethodName := ⟨RX10, "worstBeat", "(II)I"⟩
abbrev cX10_suits : ByteArray := prog_12_method_98_code
def yX10_suits : MethodName := ⟨RX10, "suits", "(I)I"⟩
abbrev cX10_together : ByteArray := prog_12_method_99_code
def yX10_together : MethodName := ⟨RX10, "together", "(I)I"⟩
abbrev cX10_nights : ByteArray := prog_12_method_100_code
def yX10_nights : MethodName := ⟨RX10, "nights", "(II)I"⟩
abbrev cX10_note : ByteArray := prog_12_method_101_code
def yX10_note : MethodName := ⟨RX10, "note", "(II)I"⟩
abbrev cX10_blank : ByteArray := prog_12_method_102_code
def yX10_blank : MethodName := ⟨RX10, "blank", "(II)I"⟩
abbrev cX10_canHave : ByteArray := prog_12_method_103_code
def yX10_canHave : MethodName := ⟨RX10, "canHave", "(II)Z"⟩
abbrev cX10_leastWaste : ByteArray := prog_12_method_104_code
def yX10_leastWaste : MethodName := ⟨RX10, "leastWaste", "(I)I"⟩
abbrev cX10_set : ByteArray := prog_12_method_105_code
def yX10_set : MethodName := ⟨RX10, "set", "(II)I"⟩
abbrev cX10_down : ByteArray := prog_12_method_106_code
def yX10_down : MethodName := ⟨RX10, "down", "(I)I"⟩
abbrev cX10_enough : ByteArray := prog_12_method_107_code
def yX10_enough : MethodName := ⟨RX10, "enough", "(III)I"⟩
abbrev cX10_kept : ByteArray := prog_12_method_108_code
def yX10_kept : MethodName := ⟨RX10, "kept", "(I)I"⟩
abbrev cX10_keepsBars : ByteArray := prog_12_method_109_code
def yX10_keepsBars : MethodName := ⟨RX10, "keepsBars", "()V"⟩
abbrev cX10_keepsTaps : ByteArray := prog_12_method_110_code
def yX10_keepsTaps : MethodName := ⟨RX10, "keepsTaps", "()V"⟩
abbrev cX10_keepsTexts : ByteArray := prog_12_method_111_code
def yX10_keepsTexts : MethodName := ⟨RX10, "keepsTexts", "()V"⟩
abbrev cX10_image : ByteArray := prog_12_method_112_code
def yX10_image : MethodName := ⟨RX10, "image", "(Z)Z"⟩
abbrev cX10_barsThat : ByteArray := prog_12_method_113_code
def yX10_barsThat : MethodName := ⟨RX10, "barsThat", "(Z)I"⟩
abbrev cX10_look : ByteArray := prog_12_method_114_code
def yX10_look : MethodName := ⟨RX10, "look", "(I)I"⟩
def RJx145de : String := "java/io/Serializable"
def RJx9f9b0 : String := "java/lang/CharSequence"
def RJxb160c : String := "java/lang/Comparable"
def RJ9 : String := "java/lang/Math"
abbrev cJ9_abs_0f7a4 : ByteArray := prog_13_method_59_code
def yJ9_abs_0f7a4 : MethodName := ⟨RJ9, "abs", "(I)I"⟩
abbrev cJ9_abs_067f4 : ByteArray := prog_13_method_61_code
def yJ9_abs_067f4 : MethodName := ⟨RJ9, "abs", "(J)J"⟩
abbrev cJ9_max_7cf53 : ByteArray := prog_13_method_65_code
def yJ9_max_7cf53 : MethodName := ⟨RJ9, "max", "(II)I"⟩
abbrev cJ9_max_f86c9 : ByteArray := prog_13_method_66_code
def yJ9_max_f86c9 : MethodName := ⟨RJ9, "max", "(JJ)J"⟩
abbrev cJ9_min_7cf53 : ByteArray := prog_13_method_69_code
def yJ9_min_7cf53 : MethodName := ⟨RJ9, "min", "(II)I"⟩
abbrev cJ9_min_f86c9 : ByteArray := prog_13_method_70_code
def yJ9_min_f86c9 : MethodName := ⟨RJ9, "min", "(JJ)J"⟩
def RJ0 : String := "java/lang/String"
abbrev cJ0_charAt_5068e : ByteArray := prog_14_method_56_code
def yJ0_charAt_5068e : MethodName := ⟨RJ0, "charAt", "(I)C"⟩
abbrev cJ0_isLatin1_aae02 : ByteArray := prog_14_method_154_code
def yJ0_isLatin1_aae02 : MethodName := ⟨RJ0, "isLatin1", "()Z"⟩
abbrev cJ0_checkIndex_df160 : ByteArray := prog_14_method_155_code
def yJ0_checkIndex_df160 : MethodName := ⟨RJ0, "checkIndex", "(II)V"⟩
def RJ1 : String := "java/lang/StringLatin1"
abbrev cJ1_charAt_3b067 : ByteArray := prog_15_method_2_code
def yJ1_charAt_3b067 : MethodName := ⟨RJ1, "charAt", "([BI)C"⟩
def RJ2 : String := "java/lang/StringUTF16"
abbrev cJ2_getChar_3b067 : ByteArray := prog_16_method_5_code
def yJ2_getChar_3b067 : MethodName := ⟨RJ2, "getChar", "([BI)C"⟩
abbrev cJ2_length_9d52b : ByteArray := prog_16_method_6_code
def yJ2_length_9d52b : MethodName := ⟨RJ2, "length", "([B)I"⟩
abbrev cJ2_charAt_3b067 : ByteArray := prog_16_method_83_code
def yJ2_charAt_3b067 : MethodName := ⟨RJ2, "charAt", "([BI)C"⟩
abbrev cJ2_checkIndex_2214a : ByteArray := prog_16_method_91_code
def yJ2_checkIndex_2214a : MethodName := ⟨RJ2, "checkIndex", "(I[B)V"⟩
def RJ10 : String := "java/lang/System"
def RJxfd54e : String := "java/lang/constant/Constable"
def RJx3cf43 : String := "java/lang/constant/ConstantDesc"
def RJ7 : String := "java/util/Arrays"
abbrev cJ7_fill_53178 : ByteArray := prog_18_method_103_code
def yJ7_fill_53178 : MethodName := ⟨RJ7, "fill", "([II)V"⟩
def RJ3 : String := "jdk/internal/util/Preconditions"
abbrev cJ3_checkIndex_8e157 : ByteArray := prog_19_method_11_code
def yJ3_checkIndex_8e157 : MethodName := ⟨RJ3, "checkIndex", "(IILjava/util/function/BiFunction;)I"⟩
def RL : String := "RingBarsLaw"
abbrev cL_law : ByteArray := code
def yL_law : MethodName := ⟨RL, "law", "([I)Z"⟩
abbrev vwCl : List vw_C := [(RX0, TX0, 18), (RX1, TX1, 8), (RX2, TX2, 2), (RX3, TX3, 12), (RX4, TX4, 9), (RX5, TX5, 5), (RX6, TX6, 2), (RX7, TX7, 10), (RX8, TX8, 17), (RX9, TX9, 12), (RX10, TX10, 74)]
end
section
abbrev nwl : List Cond := [.methodLinkNest RX8 52 yX0_init "RingBars", .methodLinkNest RX8 53 yX7_init "RingBars", .methodLinkNest RX9 22 yX4_init "RingBars", .methodLinkNest RX4 11 yX7_init "RingBars", .methodLinkNest RX9 29 yX6_init "RingBars", .methodLinkNest RX9 36 yX3_init "RingBars", .methodLinkNest RX3 38 yX2_init "RingBars", .methodLinkNest RX9 43 yX1_init "RingBars", .methodLinkNest RX1 29 yX2_init "RingBars", .methodLinkNest RX9 50 yX5_init "RingBars", .methodLinkNest RX6 82 yX9_ratio "RingBars", .methodLinkNest RX3 121 yX9_ratio "RingBars", .methodLinkNest RX1 94 yX9_ratio "RingBars"]
theorem nwl_form : ∀ w ∈ nwl, ∃ (a : String) (i : Nat) (x : MethodName) (h : String), w = .methodLinkNest a i x h := by
  intro w hw
  simp only [nwl, List.mem_cons, List.not_mem_nil, or_false] at hw
  rcases hw with rfl | rfl | rfl | rfl | rfl | rfl | rfl | rfl | rfl | rfl | rfl | rfl | rfl <;> exact ⟨_, _, _, _, rfl⟩
theorem wN_X8_52 : Cond.methodLinkNest RX8 52 yX0_init "RingBars" ∈ nwl := List.mem_of_getElem? (i := 0) rfl
theorem wN_X8_53 : Cond.methodLinkNest RX8 53 yX7_init "RingBars" ∈ nwl := List.mem_of_getElem? (i := 1) rfl
theorem wN_X9_22 : Cond.methodLinkNest RX9 22 yX4_init "RingBars" ∈ nwl := List.mem_of_getElem? (i := 2) rfl
theorem wN_X4_11 : Cond.methodLinkNest RX4 11 yX7_init "RingBars" ∈ nwl := List.mem_of_getElem? (i := 3) rfl
theorem wN_X9_29 : Cond.methodLinkNest RX9 29 yX6_init "RingBars" ∈ nwl := List.mem_of_getElem? (i := 4) rfl
theorem wN_X9_36 : Cond.methodLinkNest RX9 36 yX3_init "RingBars" ∈ nwl := List.mem_of_getElem? (i := 5) rfl
theorem wN_X3_38 : Cond.methodLinkNest RX3 38 yX2_init "RingBars" ∈ nwl := List.mem_of_getElem? (i := 6) rfl
theorem wN_X9_43 : Cond.methodLinkNest RX9 43 yX1_init "RingBars" ∈ nwl := List.mem_of_getElem? (i := 7) rfl
theorem wN_X1_29 : Cond.methodLinkNest RX1 29 yX2_init "RingBars" ∈ nwl := List.mem_of_getElem? (i := 8) rfl
theorem wN_X9_50 : Cond.methodLinkNest RX9 50 yX5_init "RingBars" ∈ nwl := List.mem_of_getElem? (i := 9) rfl
theorem wN_X6_82 : Cond.methodLinkNest RX6 82 yX9_ratio "RingBars" ∈ nwl := List.mem_of_getElem? (i := 10) rfl
theorem wN_X3_121 : Cond.methodLinkNest RX3 121 yX9_ratio "RingBars" ∈ nwl := List.mem_of_getElem? (i := 11) rfl
theorem wN_X1_94 : Cond.methodLinkNest RX1 94 yX9_ratio "RingBars" ∈ nwl := List.mem_of_getElem? (i := 12) rfl
/-- the regions, by their codes -/
def rgT : List ((Nat × List (Nat × Int × Int)) ⊕ (Nat × Nat × (Nat × Int × Int))) := [
  .inl (8, [(2, 25, 0), (0, 0, 10), (2, 26, 0), (2, 27, 0), (0, 0, 1), (0, (-2147483648), 2147483647), (0, (-2147483648), 2147483647), (0, (-2147483648), 2147483647), (2, 28, 0), (2, 29, 0), (0, 0, 20), (2, 30, 0), (2, 31, 0), (0, 0, 8), (2, 32, 0), (2, 33, 0), (0, 0, 8)]),
  .inl (0, [(0, 0, 16), (2, 2, 0), (2, 3, 0), (2, 4, 0), (2, 5, 0), (2, 6, 0), (2, 7, 0), (2, 8, 0), (0, 0, 200), (0, (-2147483648), 2147483647), (2, 9, 0), (2, 10, 0), (2, 11, 0), (2, 13, 0), (0, 0, 12), (0, (-2147483648), 2147483647), (0, (-2147483648), 2147483647), (2, 15, 0)]),
  .inr (0, 16, (0, (-2147483648), 2147483647)),
  .inr (0, 16, (0, (-2147483648), 2147483647)),
  .inr (0, 16, (0, (-2147483648), 2147483647)),
  .inr (0, 16, (0, (-2147483648), 2147483647)),
  .inr (0, 3, (0, (-2147483648), 2147483647)),
  .inr (0, 200, (0, (-2147483648), 2147483647)),
  .inr (0, 200, (0, (-2147483648), 2147483647)),
  .inr (0, 12, (0, (-2147483648), 2147483647)),
  .inr (0, 12, (0, (-2147483648), 2147483647)),
  .inr (3, 12, (2, 12, 0)),
  .inr (0, 16, (0, (-2147483648), 2147483647)),
  .inr (3, 12, (2, 14, 0)),
  .inr (0, 16, (0, (-2147483648), 2147483647)),
  .inr (0, 2, (0, (-2147483648), 2147483647)),
  .inl (7, [(0, 0, 16), (2, 17, 0), (2, 18, 0), (2, 19, 0), (2, 20, 0), (2, 21, 0), (2, 22, 0), (2, 23, 0), (2, 24, 0), (0, 0, 500)]),
  .inr (0, 16, (0, (-2147483648), 2147483647)),
  .inr (0, 16, (0, (-2147483648), 2147483647)),
  .inr (0, 16, (0, (-2147483648), 2147483647)),
  .inr (0, 16, (0, (-2147483648), 2147483647)),
  .inr (0, 16, (0, (-2147483648), 2147483647)),
  .inr (0, 16, (0, (-2147483648), 2147483647)),
  .inr (0, 16, (0, (-2147483648), 2147483647)),
  .inr (0, 500, (0, (-2147483648), 2147483647)),
  .inr (1, 10, (2, 1, 0)),
  .inr (2, 2, (2, 16, 0)),
  .inr (2, 4, (2, 16, 0)),
  .inr (0, 20, (0, (-2147483648), 2147483647)),
  .inr (0, 20, (0, (-2147483648), 2147483647)),
  .inr (0, 8, (0, (-2147483648), 2147483647)),
  .inr (0, 8, (0, (-2147483648), 2147483647)),
  .inr (0, 8, (0, (-2147483648), 2147483647)),
  .inr (0, 8, (0, (-2147483648), 2147483647)),
  .inl (8, [(2, 59, 0), (0, 0, 10), (2, 60, 0), (2, 61, 0), (0, 0, 1), (0, (-2147483648), 2147483647), (0, (-2147483648), 2147483647), (0, (-2147483648), 2147483647), (2, 62, 0), (2, 63, 0), (0, 0, 20), (2, 64, 0), (2, 65, 0), (0, 0, 8), (2, 66, 0), (2, 67, 0), (0, 0, 8)]),
  .inl (0, [(0, 0, 16), (2, 36, 0), (2, 37, 0), (2, 38, 0), (2, 39, 0), (2, 40, 0), (2, 41, 0), (2, 42, 0), (0, 0, 200), (0, (-2147483648), 2147483647), (2, 43, 0), (2, 44, 0), (2, 45, 0), (2, 47, 0), (0, 0, 12), (0, (-2147483648), 2147483647), (0, (-2147483648), 2147483647), (2, 49, 0)]),
  .inr (0, 16, (0, (-2147483648), 2147483647)),
  .inr (0, 16, (0, (-2147483648), 2147483647)),
  .inr (0, 16, (0, (-2147483648), 2147483647)),
  .inr (0, 16, (0, (-2147483648), 2147483647)),
  .inr (0, 3, (0, (-2147483648), 2147483647)),
  .inr (0, 200, (0, (-2147483648), 2147483647)),
  .inr (0, 200, (0, (-2147483648), 2147483647)),
  .inr (0, 12, (0, (-2147483648), 2147483647)),
  .inr (0, 12, (0, (-2147483648), 2147483647)),
  .inr (3, 12, (2, 46, 0)),
  .inr (0, 16, (0, (-2147483648), 2147483647)),
  .inr (3, 12, (2, 48, 0)),
  .inr (0, 16, (0, (-2147483648), 2147483647)),
  .inr (0, 2, (0, (-2147483648), 2147483647)),
  .inl (7, [(0, 0, 16), (2, 51, 0), (2, 52, 0), (2, 53, 0), (2, 54, 0), (2, 55, 0), (2, 56, 0), (2, 57, 0), (2, 58, 0), (0, 0, 500)]),
  .inr (0, 16, (0, (-2147483648), 2147483647)),
  .inr (0, 16, (0, (-2147483648), 2147483647)),
  .inr (0, 16, (0, (-2147483648), 2147483647)),
  .inr (0, 16, (0, (-2147483648), 2147483647)),
  .inr (0, 16, (0, (-2147483648), 2147483647)),
  .inr (0, 16, (0, (-2147483648), 2147483647)),
  .inr (0, 16, (0, (-2147483648), 2147483647)),
  .inr (0, 500, (0, (-2147483648), 2147483647)),
  .inr (1, 10, (2, 35, 0)),
  .inr (2, 2, (2, 50, 0)),
  .inr (2, 4, (2, 50, 0)),
  .inr (0, 20, (0, (-2147483648), 2147483647)),
  .inr (0, 20, (0, (-2147483648), 2147483647)),
  .inr (0, 8, (0, (-2147483648), 2147483647)),
  .inr (0, 8, (0, (-2147483648), 2147483647)),
  .inr (0, 8, (0, (-2147483648), 2147483647)),
  .inr (0, 8, (0, (-2147483648), 2147483647)),
  .inl (9, [(2, 0, 0), (3, 34, 0), (2, 108, 0), (0, 0, 500), (2, 78, 0), (2, 82, 0), (2, 89, 0), (2, 98, 0), (2, 104, 0), (2, 109, 0), (2, 110, 0), (2, 111, 0)]),
  .inl (7, [(0, 0, 16), (2, 70, 0), (2, 71, 0), (2, 72, 0), (2, 73, 0), (2, 74, 0), (2, 75, 0), (2, 76, 0), (2, 77, 0), (0, 0, 500)]),
  .inr (0, 16, (0, (-2147483648), 2147483647)),
  .inr (0, 16, (0, (-2147483648), 2147483647)),
  .inr (0, 16, (0, (-2147483648), 2147483647)),
  .inr (0, 16, (0, (-2147483648), 2147483647)),
  .inr (0, 16, (0, (-2147483648), 2147483647)),
  .inr (0, 16, (0, (-2147483648), 2147483647)),
  .inr (0, 16, (0, (-2147483648), 2147483647)),
  .inr (0, 500, (0, (-2147483648), 2147483647)),
  .inl (4, [(2, 69, 0), (0, (-2147483648), 2147483647), (0, (-2147483648), 2147483647), (2, 79, 0), (2, 80, 0), (2, 81, 0), (0, 0, 501), (0, 0, 500), (0, 0, 1)]),
  .inr (0, 501, (0, (-2147483648), 2147483647)),
  .inr (0, 501, (0, (-2147483648), 2147483647)),
  .inr (0, 501, (0, (-2147483648), 2147483647)),
  .inl (6, [(2, 83, 0), (2, 84, 0)]),
  .inr (0, 24, (0, (-2147483648), 2147483647)),
  .inr (0, 40, (0, (-2147483648), 2147483647)),
  .inl (2, [(2, 86, 0), (0, (-2147483648), 2147483647)]),
  .inr (0, 2048, (0, (-2147483648), 2147483647)),
  .inl (2, [(2, 88, 0), (0, (-2147483648), 2147483647)]),
  .inr (0, 2048, (0, (-2147483648), 2147483647)),
  .inl (3, [(2, 90, 0), (2, 91, 0), (2, 92, 0), (2, 93, 0), (2, 94, 0), (2, 95, 0), (2, 96, 0), (2, 97, 0), (2, 85, 0), (0, 0, 8), (0, (-2147483648), 2147483647), (0, (-2147483648), 2147483647)]),
  .inr (0, 5, (0, (-2147483648), 2147483647)),
  .inr (0, 144, (0, (-2147483648), 2147483647)),
  .inr (0, 144, (0, (-2147483648), 2147483647)),
  .inr (0, 3, (0, (-2147483648), 2147483647)),
  .inr (0, 3, (0, (-2147483648), 2147483647)),
  .inr (0, 3, (0, (-2147483648), 2147483647)),
  .inr (0, 8, (0, (-2147483648), 2147483647)),
  .inr (0, 8, (0, (-2147483648), 5)),
  .inl (1, [(2, 99, 0), (2, 100, 0), (2, 101, 0), (2, 102, 0), (0, 0, 1024), (0, 0, 4), (2, 103, 0), (2, 87, 0)]),
  .inr (0, 240, (0, (-2147483648), 2147483647)),
  .inr (0, 240, (0, (-2147483648), 2147483647)),
  .inr (0, 5, (0, 0, 3)),
  .inr (0, 1024, (0, 0, 1023)),
  .inr (0, 16, (0, (-2147483648), 2147483647)),
  .inl (5, [(2, 105, 0), (2, 106, 0), (2, 107, 0), (0, (-2147483648), 2147483647), (0, (-2147483648), 2147483647)]),
  .inr (0, 8, (0, (-2147483648), 2147483647)),
  .inr (0, 8, (0, (-2147483648), 2147483647)),
  .inr (0, 256, (0, (-2147483648), 2147483647)),
  .inr (0, 500, (0, (-2147483648), 2147483647)),
  .inr (0, 10, (0, (-2147483648), 2147483647)),
  .inr (0, 16, (0, (-2147483648), 2147483647)),
  .inr (0, 16, (0, (-2147483648), 2147483647)),
  .inl (10, [(0, (-2147483648), 2147483647), (0, 0, 10), (0, 0, 1), (0, (-2147483648), 2147483647), (2, 113, 0), (2, 114, 0), (2, 115, 0), (2, 116, 0), (2, 117, 0), (2, 118, 0), (2, 119, 0), (2, 120, 0), (2, 121, 0), (2, 122, 0), (2, 123, 0), (2, 124, 0), (2, 125, 0), (2, 126, 0), (0, 0, 500), (0, (-2147483648), 2147483647), (0, (-2147483648), 2147483647), (0, (-2147483648), 2147483647), (0, (-2147483648), 2147483647), (2, 127, 0), (2, 128, 0), (2, 129, 0), (2, 130, 0), (2, 131, 0), (2, 132, 0), (2, 133, 0), (2, 134, 0), (2, 135, 0), (2, 136, 0), (2, 137, 0), (0, 0, 1), (0, (-2147483648), 2147483647), (0, (-2147483648), 2147483647), (2, 138, 0), (0, (-2147483648), 2147483647), (0, (-2147483648), 2147483647), (0, (-2147483648), 2147483647), (0, (-2147483648), 2147483647), (0, (-2147483648), 2147483647), (2, 139, 0), (2, 140, 0), (2, 141, 0), (2, 142, 0), (2, 143, 0), (2, 144, 0), (2, 145, 0), (2, 146, 0), (2, 147, 0), (2, 148, 0), (2, 149, 0), (2, 150, 0), (2, 151, 0), (0, (-2147483648), 2147483647), (2, 152, 0), (2, 153, 0), (0, 0, 20), (2, 154, 0), (2, 155, 0), (0, 0, 8), (2, 156, 0), (2, 157, 0), (0, 0, 8), (2, 158, 0), (2, 159, 0), (2, 160, 0), (2, 161, 0), (0, 0, 1), (0, 0, 1), (0, 0, 16400), (2, 162, 0)]),
  .inr (0, 10, (0, 0, 16)),
  .inr (0, 160, (0, (-2147483648), 2147483647)),
  .inr (0, 160, (0, (-2147483648), 2147483647)),
  .inr (0, 160, (0, (-2147483648), 2147483647)),
  .inr (0, 160, (0, (-2147483648), 2147483647)),
  .inr (0, 30, (0, (-2147483648), 2147483647)),
  .inr (0, 10, (0, 0, 200)),
  .inr (0, 2000, (0, (-2147483648), 2147483647)),
  .inr (0, 2000, (0, (-2147483648), 2147483647)),
  .inr (0, 10, (0, (-2147483648), 2147483647)),
  .inr (0, 10, (0, (-2147483648), 2147483647)),
  .inr (0, 10, (0, (-2147483648), 2147483647)),
  .inr (0, 20, (0, (-2147483648), 2147483647)),
  .inr (0, 500, (0, (-2147483648), 2147483647)),
  .inr (0, 115, (0, (-2147483648), 2147483647)),
  .inr (0, 7, (0, 0, 16)),
  .inr (0, 112, (0, (-2147483648), 2147483647)),
  .inr (0, 112, (0, (-2147483648), 2147483647)),
  .inr (0, 112, (0, (-2147483648), 2147483647)),
  .inr (0, 112, (0, (-2147483648), 2147483647)),
  .inr (0, 112, (0, (-2147483648), 2147483647)),
  .inr (0, 112, (0, (-2147483648), 2147483647)),
  .inr (0, 112, (0, (-2147483648), 2147483647)),
  .inr (0, 3500, (0, (-2147483648), 2147483647)),
  .inr (0, 3500, (0, (-2147483648), 2147483647)),
  .inr (0, 40, (0, (-2147483648), 2147483647)),
  .inr (0, 14, (0, (-2147483648), 2147483647)),
  .inr (0, 520, (0, (-2147483648), 2147483647)),
  .inr (0, 5, (0, (-2147483648), 2147483647)),
  .inr (0, 5, (0, (-2147483648), 2147483647)),
  .inr (0, 144, (0, (-2147483648), 2147483647)),
  .inr (0, 144, (0, (-2147483648), 2147483647)),
  .inr (0, 8, (0, (-2147483648), 2147483647)),
  .inr (0, 10, (0, 0, 12)),
  .inr (0, 120, (0, (-2147483648), 2147483647)),
  .inr (0, 120, (0, (-2147483648), 2147483647)),
  .inr (0, 1920, (0, (-2147483648), 2147483647)),
  .inr (0, 1920, (0, (-2147483648), 2147483647)),
  .inr (0, 5, (0, (-2147483648), 2147483647)),
  .inr (0, 5120, (0, (-2147483648), 2147483647)),
  .inr (0, 1024, (0, (-2147483648), 2147483647)),
  .inr (0, 20, (0, (-2147483648), 2147483647)),
  .inr (0, 20, (0, (-2147483648), 2147483647)),
  .inr (0, 8, (0, (-2147483648), 2147483647)),
  .inr (0, 8, (0, (-2147483648), 2147483647)),
  .inr (0, 8, (0, (-2147483648), 2147483647)),
  .inr (0, 8, (0, (-2147483648), 2147483647)),
  .inr (0, 8, (0, (-2147483648), 2147483647)),
  .inr (0, 8, (0, (-2147483648), 2147483647)),
  .inr (0, 16400, (0, (-2147483648), 2147483647))]
theorem rg_0 : rgT[0]? = some (.inl (8, [(2, 25, 0), (0, 0, 10), (2, 26, 0), (2, 27, 0), (0, 0, 1), (0, (-2147483648), 2147483647), (0, (-2147483648), 2147483647), (0, (-2147483648), 2147483647), (2, 28, 0), (2, 29, 0), (0, 0, 20), (2, 30, 0), (2, 31, 0), (0, 0, 8), (2, 32, 0), (2, 33, 0), (0, 0, 8)])) := rfl
theorem rg_1 : rgT[1]? = some (.inl (0, [(0, 0, 16), (2, 2, 0), (2, 3, 0), (2, 4, 0), (2, 5, 0), (2, 6, 0), (2, 7, 0), (2, 8, 0), (0, 0, 200), (0, (-2147483648), 2147483647), (2, 9, 0), (2, 10, 0), (2, 11, 0), (2, 13, 0), (0, 0, 12), (0, (-2147483648), 2147483647), (0, (-2147483648), 2147483647), (2, 15, 0)])) := rfl
theorem rg_2 : rgT[2]? = some (.inr (0, 16, (0, (-2147483648), 2147483647))) := rfl
theorem rg_3 : rgT[3]? = some (.inr (0, 16, (0, (-2147483648), 2147483647))) := rfl
theorem rg_4 : rgT[4]? = some (.inr (0, 16, (0, (-2147483648), 2147483647))) := rfl
theorem rg_5 : rgT[5]? = some (.inr (0, 16, (0, (-2147483648), 2147483647))) := rfl
theorem rg_6 : rgT[6]? = some (.inr (0, 3, (0, (-2147483648), 2147483647))) := rfl
theorem rg_7 : rgT[7]? = some (.inr (0, 200, (0, (-2147483648), 2147483647))) := rfl
theorem rg_8 : rgT[8]? = some (.inr (0, 200, (0, (-2147483648), 2147483647))) := rfl
theorem rg_9 : rgT[9]? = some (.inr (0, 12, (0, (-2147483648), 2147483647))) := rfl
theorem rg_10 : rgT[10]? = some (.inr (0, 12, (0, (-2147483648), 2147483647))) := rfl
theorem rg_11 : rgT[11]? = some (.inr (3, 12, (2, 12, 0))) := rfl
theorem rg_12 : rgT[12]? = some (.inr (0, 16, (0, (-2147483648), 2147483647))) := rfl
theorem rg_13 : rgT[13]? = some (.inr (3, 12, (2, 14, 0))) := rfl
theorem rg_14 : rgT[14]? = some (.inr (0, 16, (0, (-2147483648), 2147483647))) := rfl
theorem rg_15 : rgT[15]? = some (.inr (0, 2, (0, (-2147483648), 2147483647))) := rfl
theorem rg_16 : rgT[16]? = some (.inl (7, [(0, 0, 16), (2, 17, 0), (2, 18, 0), (2, 19, 0), (2, 20, 0), (2, 21, 0), (2, 22, 0), (2, 23, 0), (2, 24, 0), (0, 0, 500)])) := rfl
theorem rg_17 : rgT[17]? = some (.inr (0, 16, (0, (-2147483648), 2147483647))) := rfl
theorem rg_18 : rgT[18]? = some (.inr (0, 16, (0, (-2147483648), 2147483647))) := rfl
theorem rg_19 : rgT[19]? = some (.inr (0, 16, (0, (-2147483648), 2147483647))) := rfl
theorem rg_20 : rgT[20]? = some (.inr (0, 16, (0, (-2147483648), 2147483647))) := rfl
theorem rg_21 : rgT[21]? = some (.inr (0, 16, (0, (-2147483648), 2147483647))) := rfl
theorem rg_22 : rgT[22]? = some (.inr (0, 16, (0, (-2147483648), 2147483647))) := rfl
theorem rg_23 : rgT[23]? = some (.inr (0, 16, (0, (-2147483648), 2147483647))) := rfl
theorem rg_24 : rgT[24]? = some (.inr (0, 500, (0, (-2147483648), 2147483647))) := rfl
theorem rg_25 : rgT[25]? = some (.inr (1, 10, (2, 1, 0))) := rfl
theorem rg_26 : rgT[26]? = some (.inr (2, 2, (2, 16, 0))) := rfl
theorem rg_27 : rgT[27]? = some (.inr (2, 4, (2, 16, 0))) := rfl
theorem rg_28 : rgT[28]? = some (.inr (0, 20, (0, (-2147483648), 2147483647))) := rfl
theorem rg_29 : rgT[29]? = some (.inr (0, 20, (0, (-2147483648), 2147483647))) := rfl
theorem rg_30 : rgT[30]? = some (.inr (0, 8, (0, (-2147483648), 2147483647))) := rfl
theorem rg_31 : rgT[31]? = some (.inr (0, 8, (0, (-2147483648), 2147483647))) := rfl
theorem rg_32 : rgT[32]? = some (.inr (0, 8, (0, (-2147483648), 2147483647))) := rfl
theorem rg_33 : rgT[33]? = some (.inr (0, 8, (0, (-2147483648), 2147483647))) := rfl
theorem rg_34 : rgT[34]? = some (.inl (8, [(2, 59, 0), (0, 0, 10), (2, 60, 0), (2, 61, 0), (0, 0, 1), (0, (-2147483648), 2147483647), (0, (-2147483648), 2147483647), (0, (-2147483648), 2147483647), (2, 62, 0), (2, 63, 0), (0, 0, 20), (2, 64, 0), (2, 65, 0), (0, 0, 8), (2, 66, 0), (2, 67, 0), (0, 0, 8)])) := rfl
theorem rg_35 : rgT[35]? = some (.inl (0, [(0, 0, 16), (2, 36, 0), (2, 37, 0), (2, 38, 0), (2, 39, 0), (2, 40, 0), (2, 41, 0), (2, 42, 0), (0, 0, 200), (0, (-2147483648), 2147483647), (2, 43, 0), (2, 44, 0), (2, 45, 0), (2, 47, 0), (0, 0, 12), (0, (-2147483648), 2147483647), (0, (-2147483648), 2147483647), (2, 49, 0)])) := rfl
theorem rg_36 : rgT[36]? = some (.inr (0, 16, (0, (-2147483648), 2147483647))) := rfl
theorem rg_37 : rgT[37]? = some (.inr (0, 16, (0, (-2147483648), 2147483647))) := rfl
theorem rg_38 : rgT[38]? = some (.inr (0, 16, (0, (-2147483648), 2147483647))) := rfl
theorem rg_39 : rgT[39]? = some (.inr (0, 16, (0, (-2147483648), 2147483647))) := rfl
theorem rg_40 : rgT[40]? = some (.inr (0, 3, (0, (-2147483648), 2147483647))) := rfl
theorem rg_41 : rgT[41]? = some (.inr (0, 200, (0, (-2147483648), 2147483647))) := rfl
theorem rg_42 : rgT[42]? = some (.inr (0, 200, (0, (-2147483648), 2147483647))) := rfl
theorem rg_43 : rgT[43]? = some (.inr (0, 12, (0, (-2147483648), 2147483647))) := rfl
theorem rg_44 : rgT[44]? = some (.inr (0, 12, (0, (-2147483648), 2147483647))) := rfl
theorem rg_45 : rgT[45]? = some (.inr (3, 12, (2, 46, 0))) := rfl
theorem rg_46 : rgT[46]? = some (.inr (0, 16, (0, (-2147483648), 2147483647))) := rfl
theorem rg_47 : rgT[47]? = some (.inr (3, 12, (2, 48, 0))) := rfl
theorem rg_48 : rgT[48]? = some (.inr (0, 16, (0, (-2147483648), 2147483647))) := rfl
theorem rg_49 : rgT[49]? = some (.inr (0, 2, (0, (-2147483648), 2147483647))) := rfl
theorem rg_50 : rgT[50]? = some (.inl (7, [(0, 0, 16), (2, 51, 0), (2, 52, 0), (2, 53, 0), (2, 54, 0), (2, 55, 0), (2, 56, 0), (2, 57, 0), (2, 58, 0), (0, 0, 500)])) := rfl
theorem rg_51 : rgT[51]? = some (.inr (0, 16, (0, (-2147483648), 2147483647))) := rfl
theorem rg_52 : rgT[52]? = some (.inr (0, 16, (0, (-2147483648), 2147483647))) := rfl
theorem rg_53 : rgT[53]? = some (.inr (0, 16, (0, (-2147483648), 2147483647))) := rfl
theorem rg_54 : rgT[54]? = some (.inr (0, 16, (0, (-2147483648), 2147483647))) := rfl
theorem rg_55 : rgT[55]? = some (.inr (0, 16, (0, (-2147483648), 2147483647))) := rfl
theorem rg_56 : rgT[56]? = some (.inr (0, 16, (0, (-2147483648), 2147483647))) := rfl
theorem rg_57 : rgT[57]? = some (.inr (0, 16, (0, (-2147483648), 2147483647))) := rfl
theorem rg_58 : rgT[58]? = some (.inr (0, 500, (0, (-2147483648), 2147483647))) := rfl
theorem rg_59 : rgT[59]? = some (.inr (1, 10, (2, 35, 0))) := rfl
theorem rg_60 : rgT[60]? = some (.inr (2, 2, (2, 50, 0))) := rfl
theorem rg_61 : rgT[61]? = some (.inr (2, 4, (2, 50, 0))) := rfl
theorem rg_62 : rgT[62]? = some (.inr (0, 20, (0, (-2147483648), 2147483647))) := rfl
theorem rg_63 : rgT[63]? = some (.inr (0, 20, (0, (-2147483648), 2147483647))) := rfl
theorem rg_64 : rgT[64]? = some (.inr (0, 8, (0, (-2147483648), 2147483647))) := rfl
theorem rg_65 : rgT[65]? = some (.inr (0, 8, (0, (-2147483648), 2147483647))) := rfl
theorem rg_66 : rgT[66]? = some (.inr (0, 8, (0, (-2147483648), 2147483647))) := rfl
theorem rg_67 : rgT[67]? = some (.inr (0, 8, (0, (-2147483648), 2147483647))) := rfl
theorem rg_68 : rgT[68]? = some (.inl (9, [(2, 0, 0), (3, 34, 0), (2, 108, 0), (0, 0, 500), (2, 78, 0), (2, 82, 0), (2, 89, 0), (2, 98, 0), (2, 104, 0), (2, 109, 0), (2, 110, 0), (2, 111, 0)])) := rfl
theorem rg_69 : rgT[69]? = some (.inl (7, [(0, 0, 16), (2, 70, 0), (2, 71, 0), (2, 72, 0), (2, 73, 0), (2, 74, 0), (2, 75, 0), (2, 76, 0), (2, 77, 0), (0, 0, 500)])) := rfl
theorem rg_70 : rgT[70]? = some (.inr (0, 16, (0, (-2147483648), 2147483647))) := rfl
theorem rg_71 : rgT[71]? = some (.inr (0, 16, (0, (-2147483648), 2147483647))) := rfl
theorem rg_72 : rgT[72]? = some (.inr (0, 16, (0, (-2147483648), 2147483647))) := rfl
theorem rg_73 : rgT[73]? = some (.inr (0, 16, (0, (-2147483648), 2147483647))) := rfl
theorem rg_74 : rgT[74]? = some (.inr (0, 16, (0, (-2147483648), 2147483647))) := rfl
theorem rg_75 : rgT[75]? = some (.inr (0, 16, (0, (-2147483648), 2147483647))) := rfl
theorem rg_76 : rgT[76]? = some (.inr (0, 16, (0, (-2147483648), 2147483647))) := rfl
theorem rg_77 : rgT[77]? = some (.inr (0, 500, (0, (-2147483648), 2147483647))) := rfl
theorem rg_78 : rgT[78]? = some (.inl (4, [(2, 69, 0), (0, (-2147483648), 2147483647), (0, (-2147483648), 2147483647), (2, 79, 0), (2, 80, 0), (2, 81, 0), (0, 0, 501), (0, 0, 500), (0, 0, 1)])) := rfl
theorem rg_79 : rgT[79]? = some (.inr (0, 501, (0, (-2147483648), 2147483647))) := rfl
theorem rg_80 : rgT[80]? = some (.inr (0, 501, (0, (-2147483648), 2147483647))) := rfl
theorem rg_81 : rgT[81]? = some (.inr (0, 501, (0, (-2147483648), 2147483647))) := rfl
theorem rg_82 : rgT[82]? = some (.inl (6, [(2, 83, 0), (2, 84, 0)])) := rfl
theorem rg_83 : rgT[83]? = some (.inr (0, 24, (0, (-2147483648), 2147483647))) := rfl
theorem rg_84 : rgT[84]? = some (.inr (0, 40, (0, (-2147483648), 2147483647))) := rfl
theorem rg_85 : rgT[85]? = some (.inl (2, [(2, 86, 0), (0, (-2147483648), 2147483647)])) := rfl
theorem rg_86 : rgT[86]? = some (.inr (0, 2048, (0, (-2147483648), 2147483647))) := rfl
theorem rg_87 : rgT[87]? = some (.inl (2, [(2, 88, 0), (0, (-2147483648), 2147483647)])) := rfl
theorem rg_88 : rgT[88]? = some (.inr (0, 2048, (0, (-2147483648), 2147483647))) := rfl
theorem rg_89 : rgT[89]? = some (.inl (3, [(2, 90, 0), (2, 91, 0), (2, 92, 0), (2, 93, 0), (2, 94, 0), (2, 95, 0), (2, 96, 0), (2, 97, 0), (2, 85, 0), (0, 0, 8), (0, (-2147483648), 2147483647), (0, (-2147483648), 2147483647)])) := rfl
theorem rg_90 : rgT[90]? = some (.inr (0, 5, (0, (-2147483648), 2147483647))) := rfl
theorem rg_91 : rgT[91]? = some (.inr (0, 144, (0, (-2147483648), 2147483647))) := rfl
theorem rg_92 : rgT[92]? = some (.inr (0, 144, (0, (-2147483648), 2147483647))) := rfl
theorem rg_93 : rgT[93]? = some (.inr (0, 3, (0, (-2147483648), 2147483647))) := rfl
theorem rg_94 : rgT[94]? = some (.inr (0, 3, (0, (-2147483648), 2147483647))) := rfl
theorem rg_95 : rgT[95]? = some (.inr (0, 3, (0, (-2147483648), 2147483647))) := rfl
theorem rg_96 : rgT[96]? = some (.inr (0, 8, (0, (-2147483648), 2147483647))) := rfl
theorem rg_97 : rgT[97]? = some (.inr (0, 8, (0, (-2147483648), 5))) := rfl
theorem rg_98 : rgT[98]? = some (.inl (1, [(2, 99, 0), (2, 100, 0), (2, 101, 0), (2, 102, 0), (0, 0, 1024), (0, 0, 4), (2, 103, 0), (2, 87, 0)])) := rfl
theorem rg_99 : rgT[99]? = some (.inr (0, 240, (0, (-2147483648), 2147483647))) := rfl
theorem rg_100 : rgT[100]? = some (.inr (0, 240, (0, (-2147483648), 2147483647))) := rfl
theorem rg_101 : rgT[101]? = some (.inr (0, 5, (0, 0, 3))) := rfl
theorem rg_102 : rgT[102]? = some (.inr (0, 1024, (0, 0, 1023))) := rfl
theorem rg_103 : rgT[103]? = some (.inr (0, 16, (0, (-2147483648), 2147483647))) := rfl
theorem rg_104 : rgT[104]? = some (.inl (5, [(2, 105, 0), (2, 106, 0), (2, 107, 0), (0, (-2147483648), 2147483647), (0, (-2147483648), 2147483647)])) := rfl
theorem rg_105 : rgT[105]? = some (.inr (0, 8, (0, (-2147483648), 2147483647))) := rfl
theorem rg_106 : rgT[106]? = some (.inr (0, 8, (0, (-2147483648), 2147483647))) := rfl
theorem rg_107 : rgT[107]? = some (.inr (0, 256, (0, (-2147483648), 2147483647))) := rfl
theorem rg_108 : rgT[108]? = some (.inr (0, 500, (0, (-2147483648), 2147483647))) := rfl
theorem rg_109 : rgT[109]? = some (.inr (0, 10, (0, (-2147483648), 2147483647))) := rfl
theorem rg_110 : rgT[110]? = some (.inr (0, 16, (0, (-2147483648), 2147483647))) := rfl
theorem rg_111 : rgT[111]? = some (.inr (0, 16, (0, (-2147483648), 2147483647))) := rfl
theorem rg_112 : rgT[112]? = some (.inl (10, [(0, (-2147483648), 2147483647), (0, 0, 10), (0, 0, 1), (0, (-2147483648), 2147483647), (2, 113, 0), (2, 114, 0), (2, 115, 0), (2, 116, 0), (2, 117, 0), (2, 118, 0), (2, 119, 0), (2, 120, 0), (2, 121, 0), (2, 122, 0), (2, 123, 0), (2, 124, 0), (2, 125, 0), (2, 126, 0), (0, 0, 500), (0, (-2147483648), 2147483647), (0, (-2147483648), 2147483647), (0, (-2147483648), 2147483647), (0, (-2147483648), 2147483647), (2, 127, 0), (2, 128, 0), (2, 129, 0), (2, 130, 0), (2, 131, 0), (2, 132, 0), (2, 133, 0), (2, 134, 0), (2, 135, 0), (2, 136, 0), (2, 137, 0), (0, 0, 1), (0, (-2147483648), 2147483647), (0, (-2147483648), 2147483647), (2, 138, 0), (0, (-2147483648), 2147483647), (0, (-2147483648), 2147483647), (0, (-2147483648), 2147483647), (0, (-2147483648), 2147483647), (0, (-2147483648), 2147483647), (2, 139, 0), (2, 140, 0), (2, 141, 0), (2, 142, 0), (2, 143, 0), (2, 144, 0), (2, 145, 0), (2, 146, 0), (2, 147, 0), (2, 148, 0), (2, 149, 0), (2, 150, 0), (2, 151, 0), (0, (-2147483648), 2147483647), (2, 152, 0), (2, 153, 0), (0, 0, 20), (2, 154, 0), (2, 155, 0), (0, 0, 8), (2, 156, 0), (2, 157, 0), (0, 0, 8), (2, 158, 0), (2, 159, 0), (2, 160, 0), (2, 161, 0), (0, 0, 1), (0, 0, 1), (0, 0, 16400), (2, 162, 0)])) := rfl
theorem rg_113 : rgT[113]? = some (.inr (0, 10, (0, 0, 16))) := rfl
theorem rg_114 : rgT[114]? = some (.inr (0, 160, (0, (-2147483648), 2147483647))) := rfl
theorem rg_115 : rgT[115]? = some (.inr (0, 160, (0, (-2147483648), 2147483647))) := rfl
theorem rg_116 : rgT[116]? = some (.inr (0, 160, (0, (-2147483648), 2147483647))) := rfl
theorem rg_117 : rgT[117]? = some (.inr (0, 160, (0, (-2147483648), 2147483647))) := rfl
theorem rg_118 : rgT[118]? = some (.inr (0, 30, (0, (-2147483648), 2147483647))) := rfl
theorem rg_119 : rgT[119]? = some (.inr (0, 10, (0, 0, 200))) := rfl
theorem rg_120 : rgT[120]? = some (.inr (0, 2000, (0, (-2147483648), 2147483647))) := rfl
theorem rg_121 : rgT[121]? = some (.inr (0, 2000, (0, (-2147483648), 2147483647))) := rfl
theorem rg_122 : rgT[122]? = some (.inr (0, 10, (0, (-2147483648), 2147483647))) := rfl
theorem rg_123 : rgT[123]? = some (.inr (0, 10, (0, (-2147483648), 2147483647))) := rfl
theorem rg_124 : rgT[124]? = some (.inr (0, 10, (0, (-2147483648), 2147483647))) := rfl
theorem rg_125 : rgT[125]? = some (.inr (0, 20, (0, (-2147483648), 2147483647))) := rfl
theorem rg_126 : rgT[126]? = some (.inr (0, 500, (0, (-2147483648), 2147483647))) := rfl
theorem rg_127 : rgT[127]? = some (.inr (0, 115, (0, (-2147483648), 2147483647))) := rfl
theorem rg_128 : rgT[128]? = some (.inr (0, 7, (0, 0, 16))) := rfl
theorem rg_129 : rgT[129]? = some (.inr (0, 112, (0, (-2147483648), 2147483647))) := rfl
theorem rg_130 : rgT[130]? = some (.inr (0, 112, (0, (-2147483648), 2147483647))) := rfl
theorem rg_131 : rgT[131]? = some (.inr (0, 112, (0, (-2147483648), 2147483647))) := rfl
theorem rg_132 : rgT[132]? = some (.inr (0, 112, (0, (-2147483648), 2147483647))) := rfl
theorem rg_133 : rgT[133]? = some (.inr (0, 112, (0, (-2147483648), 2147483647))) := rfl
theorem rg_134 : rgT[134]? = some (.inr (0, 112, (0, (-2147483648), 2147483647))) := rfl
theorem rg_135 : rgT[135]? = some (.inr (0, 112, (0, (-2147483648), 2147483647))) := rfl
theorem rg_136 : rgT[136]? = some (.inr (0, 3500, (0, (-2147483648), 2147483647))) := rfl
theorem rg_137 : rgT[137]? = some (.inr (0, 3500, (0, (-2147483648), 2147483647))) := rfl
theorem rg_138 : rgT[138]? = some (.inr (0, 40, (0, (-2147483648), 2147483647))) := rfl
theorem rg_139 : rgT[139]? = some (.inr (0, 14, (0, (-2147483648), 2147483647))) := rfl
theorem rg_140 : rgT[140]? = some (.inr (0, 520, (0, (-2147483648), 2147483647))) := rfl
theorem rg_141 : rgT[141]? = some (.inr (0, 5, (0, (-2147483648), 2147483647))) := rfl
theorem rg_142 : rgT[142]? = some (.inr (0, 5, (0, (-2147483648), 2147483647))) := rfl
theorem rg_143 : rgT[143]? = some (.inr (0, 144, (0, (-2147483648), 2147483647))) := rfl
theorem rg_144 : rgT[144]? = some (.inr (0, 144, (0, (-2147483648), 2147483647))) := rfl
theorem rg_145 : rgT[145]? = some (.inr (0, 8, (0, (-2147483648), 2147483647))) := rfl
theorem rg_146 : rgT[146]? = some (.inr (0, 10, (0, 0, 12))) := rfl
theorem rg_147 : rgT[147]? = some (.inr (0, 120, (0, (-2147483648), 2147483647))) := rfl
theorem rg_148 : rgT[148]? = some (.inr (0, 120, (0, (-2147483648), 2147483647))) := rfl
theorem rg_149 : rgT[149]? = some (.inr (0, 1920, (0, (-2147483648), 2147483647))) := rfl
theorem rg_150 : rgT[150]? = some (.inr (0, 1920, (0, (-2147483648), 2147483647))) := rfl
theorem rg_151 : rgT[151]? = some (.inr (0, 5, (0, (-2147483648), 2147483647))) := rfl
theorem rg_152 : rgT[152]? = some (.inr (0, 5120, (0, (-2147483648), 2147483647))) := rfl
theorem rg_153 : rgT[153]? = some (.inr (0, 1024, (0, (-2147483648), 2147483647))) := rfl
theorem rg_154 : rgT[154]? = some (.inr (0, 20, (0, (-2147483648), 2147483647))) := rfl
theorem rg_155 : rgT[155]? = some (.inr (0, 20, (0, (-2147483648), 2147483647))) := rfl
theorem rg_156 : rgT[156]? = some (.inr (0, 8, (0, (-2147483648), 2147483647))) := rfl
theorem rg_157 : rgT[157]? = some (.inr (0, 8, (0, (-2147483648), 2147483647))) := rfl
theorem rg_158 : rgT[158]? = some (.inr (0, 8, (0, (-2147483648), 2147483647))) := rfl
theorem rg_159 : rgT[159]? = some (.inr (0, 8, (0, (-2147483648), 2147483647))) := rfl
theorem rg_160 : rgT[160]? = some (.inr (0, 8, (0, (-2147483648), 2147483647))) := rfl
theorem rg_161 : rgT[161]? = some (.inr (0, 8, (0, (-2147483648), 2147483647))) := rfl
theorem rg_162 : rgT[162]? = some (.inr (0, 16400, (0, (-2147483648), 2147483647))) := rfl
end
section
/-! ===== stable words ===== -/
def okW : List Cond := lw_tbl.filter goodWord
theorem ok_of {w : Cond} (h : w ∈ lw_tbl) (g : goodWord w = true) : w ∈ okW := List.mem_filter.mpr ⟨h, g⟩
theorem ok_in {w : Cond} (h : w ∈ okW) : w ∈ lw_tbl := (List.mem_filter.mp h).1
theorem ok_good {w : Cond} (h : w ∈ okW) : goodWord w = true := (List.mem_filter.mp h).2
abbrev wsY (y : MethodName) (b : ByteArray) (n : Nat) (r : Option FieldType) : List Cond := .code y b n r :: okW
theorem good_ws {big : List Cond} (hbig : ∀ w ∈ okW, w ∈ big) {y : MethodName} {b : ByteArray} {n : Nat} {r : Option FieldType} (h : Cond.code y b n r ∈ okW) : GoodIn big (wsY y b n r) := by
  intro w hw
  have h1 : w ∈ okW := by
    rcases List.mem_cons.mp hw with rfl | h1
    · exact h
    · exact h1
  exact ⟨hbig w h1, good_of_word (ok_good h1)⟩
/-! ===== the tables' part of a state: class numbers and slots, array classes ===== -/
/-- (class ids, slots), array classes (0 int[], 1 Bar[], 2 Text[], 3 int[][]), addresses of constants -/
abbrev KE : Type := va_G × (Nat → ClassId) × (Nat → Nat)
def tyL (CA : Nat → ClassId) : List (ClassId × FieldType) := [(CA 0, .int), (CA 1, .object "RingBars$Bar"), (CA 2, .object "RingBars$Text"), (CA 3, .array .int)]
def ao_ok (U : State) : Prop := (Cond.arrayOver (.array .int)).before #[] U = true
theorem ao_moved {u U : State} (hW : u.vm.Alike U.vm) (h : ao_ok u) : ao_ok U := by
  have h1 := Cond.arrayOver_setVmC (args := #[]) (s := u) hW (.array .int)
  unfold ao_ok at h ⊢
  rw [h] at h1
  exact h1
def KT (K : KE) (U : State) : Prop := va_K K.1 vwCl (tyL K.2.1) U ∧ (∀ w ∈ nwl, va_Nw w U) ∧ va_AO "RingBars$Bar" U ∧ va_AO "RingBars$Text" U ∧ ao_ok U
theorem KT.warm {K : KE} {s U : State} (hW : s.WarmedH U.vm) (h : KT K s) : KT K U := by
  obtain ⟨h1, h2, h3, h4, h5⟩ := h
  refine ⟨va_K.moved hW.alike h1, fun w hw => ?_, va_AO.moved hW.alike h3, va_AO.moved hW.alike h4, ao_moved hW.alike h5⟩
  obtain ⟨a, i, x, hh, rfl⟩ := nwl_form w hw
  exact va_Nw.warmM hW (h2 _ hw)
theorem KT.same {K : KE} {u U : State} (hv : u.vm = U.vm) (h : KT K u) : KT K U := by
  obtain ⟨h1, h2, h3, h4, h5⟩ := h
  have hal : u.vm.Alike U.vm := by rw [hv]; exact Vm.Alike.refl _
  refine ⟨va_K.moved hal h1, fun w hw => ?_, va_AO.moved hal h3, va_AO.moved hal h4, ao_moved hal h5⟩
  obtain ⟨a, i, x, hh, rfl⟩ := nwl_form w hw
  exact va_Nw.same rfl hv (h2 _ hw)
/-! ===== reading the heap ===== -/
def fV (H : Heap) (a i : Nat) : Value := match H[a]? with
  | some c => (c.slots[i]?).getD .null
  | none => .null
def fI (H : Heap) (a i : Nat) : Int32 := match fV H a i with
  | .int x => x
  | _ => 0
def fR (H : Heap) (a i : Nat) : Nat := match fV H a i with
  | .ref q => q
  | _ => 0
theorem fV_at {H : Heap} {a i : Nat} {cell : Cell} {v : Value} (h : H[a]? = some cell) (hv : cell.slots[i]? = some v) : fV H a i = v := by simp [fV, h, hv]
theorem fI_at {H : Heap} {a i : Nat} {cell : Cell} {x : Int32} (h : H[a]? = some cell) (hv : cell.slots[i]? = some (.int x)) : fI H a i = x := by simp [fI, fV_at h hv]
theorem fR_at {H : Heap} {a i : Nat} {cell : Cell} {q : Nat} (h : H[a]? = some cell) (hv : cell.slots[i]? = some (.ref q)) : fR H a i = q := by simp [fR, fV_at h hv]
theorem fV_kept {H H1 : Heap} {a i : Nat} (h : H1[a]? = H[a]?) : fV H1 a i = fV H a i := by simp [fV, h]
theorem fI_kept {H H1 : Heap} {a i : Nat} (h : H1[a]? = H[a]?) : fI H1 a i = fI H a i := by simp [fI, fV_kept h]
theorem fR_kept {H H1 : Heap} {a i : Nat} (h : H1[a]? = H[a]?) : fR H1 a i = fR H a i := by simp [fR, fV_kept h]
/-! ===== regions: every typed cell fits its region's shape ===== -/
/-- (0, lo, hi): an int; (2, c, _): a cell of region c; else: a cell of region c or null -/
abbrev FT : Type := Nat × Int × Int
/-- inl: an object of class ci; inr: an array (array class ti, length, places) -/
abbrev SH : Type := (Nat × List FT) ⊕ (Nat × Nat × FT)
def OkV (G : Nat → Option Nat) (f : FT) (v : Value) : Prop :=
  if f.1 = 0 then ∃ x : Int32, v = .int x ∧ f.2.1 ≤ x.toInt ∧ x.toInt ≤ f.2.2
  else if f.1 = 2 then ∃ q : Nat, v = .ref q ∧ G q = some f.2.1.toNat
  else v = .null ∨ ∃ q : Nat, v = .ref q ∧ G q = some f.2.1.toNat
def CellOk (K : KE) (G : Nat → Option Nat) (H : Heap) (a : Nat) (σ : SH) : Prop := match σ with
  | .inl o => ∃ cell : Cell, H[a]? = some cell ∧ cell.cls = K.1.1 o.1 ∧ cell.vm = .none ∧ ∀ (k : Nat) (f : FT), o.2[k]? = some f → ∃ v : Value, cell.slots[K.1.2 o.1 k]? = some v ∧ OkV G f v
  | .inr r => ∃ cell : Cell, H[a]? = some cell ∧ cell.cls = K.2.1 r.1 ∧ cell.vm = .none ∧ cell.slots.size = r.2.1 ∧ ∀ j : Nat, j < r.2.1 → ∃ v : Value, cell.slots[j]? = some v ∧ OkV G r.2.2 v
def TY (K : KE) (G : Nat → Option Nat) (H : Heap) : Prop := ∀ (a t : Nat), G a = some t → ∃ σ : SH, rgT[t]? = some σ ∧ CellOk K G H a σ
theorem CellOk.kept {K : KE} {G : Nat → Option Nat} {H H1 : Heap} {a : Nat} {σ : SH} (h : CellOk K G H a σ) (hq : H1[a]? = H[a]?) : CellOk K G H1 a σ := by
  cases σ with
  | inl o => obtain ⟨c, h1, h2⟩ := h; exact ⟨c, hq.trans h1, h2⟩
  | inr r => obtain ⟨c, h1, h2⟩ := h; exact ⟨c, hq.trans h1, h2⟩
theorem CellOk.lt {K : KE} {G : Nat → Option Nat} {H : Heap} {a : Nat} {σ : SH} (h : CellOk K G H a σ) : a < H.size := by
  cases σ with
  | inl o => obtain ⟨c, h1, h2⟩ := h; exact (Array.getElem?_eq_some_iff.mp h1).1
  | inr r => obtain ⟨c, h1, h2⟩ := h; exact (Array.getElem?_eq_some_iff.mp h1).1
theorem TY.lt {K : KE} {G : Nat → Option Nat} {H : Heap} (h : TY K G H) {a t : Nat} (ha : G a = some t) : a < H.size := by
  obtain ⟨σ, -, h2⟩ := h a t ha
  exact h2.lt
theorem TY.at {K : KE} {G : Nat → Option Nat} {H : Heap} (h : TY K G H) {a t : Nat} {σ : SH} (ha : G a = some t) (hs : rgT[t]? = some σ) : CellOk K G H a σ := by
  obtain ⟨σ', h1, h2⟩ := h a t ha
  cases h1.symm.trans hs
  exact h2
theorem OkV.mono {G G1 : Nat → Option Nat} (hG : ∀ q t, G q = some t → G1 q = some t) {f : FT} {v : Value} (h : OkV G f v) : OkV G1 f v := by
  unfold OkV at h ⊢
  split at h
  · rename_i h0; rw [if_pos h0]; exact h
  · rename_i h0; rw [if_neg h0]
    split at h
    · rename_i h2; rw [if_pos h2]; obtain ⟨q, e, g⟩ := h; exact ⟨q, e, hG _ _ g⟩
    · rename_i h2; rw [if_neg h2]
      rcases h with h | ⟨q, e, g⟩
      · exact Or.inl h
      · exact Or.inr ⟨q, e, hG _ _ g⟩
theorem CellOk.mono {K : KE} {G G1 : Nat → Option Nat} (hG : ∀ q t, G q = some t → G1 q = some t) {H : Heap} {a : Nat} {σ : SH} (h : CellOk K G H a σ) : CellOk K G1 H a σ := by
  cases σ with
  | inl o => obtain ⟨c, h1, h2, h3, h4⟩ := h; exact ⟨c, h1, h2, h3, fun k f hk => by obtain ⟨v, e1, e2⟩ := h4 k f hk; exact ⟨v, e1, e2.mono hG⟩⟩
  | inr r => obtain ⟨c, h1, h2, h3, h5, h4⟩ := h; exact ⟨c, h1, h2, h3, h5, fun k hk => by obtain ⟨v, e1, e2⟩ := h4 k hk; exact ⟨v, e1, e2.mono hG⟩⟩
theorem okv_int {G : Nat → Option Nat} {lo hi : Int} {v : Value} (h : OkV G (0, lo, hi) v) : ∃ x : Int32, v = .int x ∧ lo ≤ x.toInt ∧ x.toInt ≤ hi := h
theorem okv_ref {G : Nat → Option Nat} {c b : Int} {v : Value} (h : OkV G (2, c, b) v) : ∃ q : Nat, v = .ref q ∧ G q = some c.toNat := h
theorem okv_nul {G : Nat → Option Nat} {c b : Int} {v : Value} (h : OkV G (3, c, b) v) : v = .null ∨ ∃ q : Nat, v = .ref q ∧ G q = some c.toNat := h
/-- an int field: what is read, and its range -/
theorem TY.fint {K : KE} {G : Nat → Option Nat} {H : Heap} (h : TY K G H) {a t ci k : Nat} {fs : List FT} {lo hi : Int} (ha : G a = some t) (hs : rgT[t]? = some (.inl (ci, fs))) (hf : fs[k]? = some (0, lo, hi)) :
    ∃ cell : Cell, H[a]? = some cell ∧ cell.vm = .none ∧ cell.cls = K.1.1 ci ∧ cell.slots[K.1.2 ci k]? = some (.int (fI H a (K.1.2 ci k))) ∧ lo ≤ (fI H a (K.1.2 ci k)).toInt ∧ (fI H a (K.1.2 ci k)).toInt ≤ hi := by
  obtain ⟨cell, h1, h2, h3, h4⟩ := h.at ha hs
  obtain ⟨v, e1, e2⟩ := h4 k _ hf
  obtain ⟨x, rfl, e3, e4⟩ := okv_int e2
  rw [fI_at h1 e1]
  exact ⟨cell, h1, h3, h2, e1, e3, e4⟩
theorem TY.fref {K : KE} {G : Nat → Option Nat} {H : Heap} (h : TY K G H) {a t ci k : Nat} {fs : List FT} {c b : Int} (ha : G a = some t) (hs : rgT[t]? = some (.inl (ci, fs))) (hf : fs[k]? = some (2, c, b)) :
    ∃ cell : Cell, H[a]? = some cell ∧ cell.vm = .none ∧ cell.cls = K.1.1 ci ∧ cell.slots[K.1.2 ci k]? = some (.ref (fR H a (K.1.2 ci k))) ∧ G (fR H a (K.1.2 ci k)) = some c.toNat := by
  obtain ⟨cell, h1, h2, h3, h4⟩ := h.at ha hs
  obtain ⟨v, e1, e2⟩ := h4 k _ hf
  obtain ⟨x, rfl, e3⟩ := okv_ref e2
  rw [fR_at h1 e1]
  exact ⟨cell, h1, h3, h2, e1, e3⟩
theorem TY.fnul {K : KE} {G : Nat → Option Nat} {H : Heap} (h : TY K G H) {a t ci k : Nat} {fs : List FT} {c b : Int} (ha : G a = some t) (hs : rgT[t]? = some (.inl (ci, fs))) (hf : fs[k]? = some (3, c, b)) :
    ∃ cell : Cell, H[a]? = some cell ∧ cell.vm = .none ∧ cell.cls = K.1.1 ci ∧ cell.slots[K.1.2 ci k]? = some (fV H a (K.1.2 ci k)) ∧ (fV H a (K.1.2 ci k) = .null ∨ (fV H a (K.1.2 ci k) = .ref (fR H a (K.1.2 ci k)) ∧ G (fR H a (K.1.2 ci k)) = some c.toNat)) := by
  obtain ⟨cell, h1, h2, h3, h4⟩ := h.at ha hs
  obtain ⟨v, e1, e2⟩ := h4 k _ hf
  rw [fV_at h1 e1]
  refine ⟨cell, h1, h3, h2, e1, ?_⟩
  rcases okv_nul e2 with rfl | ⟨q, rfl, e3⟩
  · exact Or.inl rfl
  · rw [fR_at h1 e1]
    exact Or.inr ⟨rfl, e3⟩
theorem TY.aint {K : KE} {G : Nat → Option Nat} {H : Heap} (h : TY K G H) {a t ti n : Nat} {lo hi : Int} (ha : G a = some t) (hs : rgT[t]? = some (.inr (ti, n, (0, lo, hi)))) {j : Nat} (hj : j < n) :
    ∃ cell : Cell, H[a]? = some cell ∧ cell.vm = .none ∧ cell.cls = K.2.1 ti ∧ cell.slots.size = n ∧ cell.slots[j]? = some (.int (fI H a j)) ∧ lo ≤ (fI H a j).toInt ∧ (fI H a j).toInt ≤ hi := by
  obtain ⟨cell, h1, h2, h3, h5, h4⟩ := h.at ha hs
  obtain ⟨v, e1, e2⟩ := h4 j hj
  obtain ⟨x, rfl, e3, e4⟩ := okv_int e2
  rw [fI_at h1 e1]
  exact ⟨cell, h1, h3, h2, h5, e1, e3, e4⟩
theorem TY.aref {K : KE} {G : Nat → Option Nat} {H : Heap} (h : TY K G H) {a t ti n : Nat} {c b : Int} (ha : G a = some t) (hs : rgT[t]? = some (.inr (ti, n, (2, c, b)))) {j : Nat} (hj : j < n) :
    ∃ cell : Cell, H[a]? = some cell ∧ cell.vm = .none ∧ cell.cls = K.2.1 ti ∧ cell.slots.size = n ∧ cell.slots[j]? = some (.ref (fR H a j)) ∧ G (fR H a j) = some c.toNat := by
  obtain ⟨cell, h1, h2, h3, h5, h4⟩ := h.at ha hs
  obtain ⟨v, e1, e2⟩ := h4 j hj
  obtain ⟨x, rfl, e3⟩ := okv_ref e2
  rw [fR_at h1 e1]
  exact ⟨cell, h1, h3, h2, h5, e1, e3⟩
theorem TY.alen {K : KE} {G : Nat → Option Nat} {H : Heap} (h : TY K G H) {a t ti n : Nat} {f : FT} (ha : G a = some t) (hs : rgT[t]? = some (.inr (ti, n, f))) :
    ∃ cell : Cell, H[a]? = some cell ∧ cell.vm = .none ∧ cell.cls = K.2.1 ti ∧ cell.slots.size = n := by
  obtain ⟨cell, h1, h2, h3, h5, -⟩ := h.at ha hs
  exact ⟨cell, h1, h3, h2, h5⟩
/-- one cell's slot is written: the typing stays if the new value fits -/
theorem TY.putF {K : KE} {G : Nat → Option Nat} {H H1 : Heap} (h : TY K G H) {a t ci k : Nat} {fs : List FT} {f : FT} {cell : Cell} {v : Value} (ha : G a = some t) (hs : rgT[t]? = some (.inl (ci, fs))) (hap : ∀ x y, x < fs.length → y < fs.length → x ≠ y → K.1.2 ci x ≠ K.1.2 ci y) (hf : fs[k]? = some f) (hv : OkV G f v)
    (hc : H[a]? = some cell) (e1 : H1[a]? = some (cell.setSlot (K.1.2 ci k) v)) (oq : ∀ q : Nat, q ≠ a → H1[q]? = H[q]?) : TY K G H1 := by
  intro b t' hb
  by_cases hba : b = a
  · subst hba
    cases ha.symm.trans hb
    refine ⟨_, hs, ?_⟩
    obtain ⟨c, h1, h2, h3, h4⟩ := h.at ha hs
    cases hc.symm.trans h1
    refine ⟨_, e1, h2, h3, fun j g hj => ?_⟩
    have hjl : j < fs.length := (List.getElem?_eq_some_iff.mp hj).1
    have hkl : k < fs.length := (List.getElem?_eq_some_iff.mp hf).1
    by_cases hjk : j = k
    · subst hjk
      cases hf.symm.trans hj
      obtain ⟨v0, q1, -⟩ := h4 j _ hj
      exact ⟨v, Cell.slots_setSlot_self _ (k2_hasslot q1), hv⟩
    · rw [slot_ne _ _ (hap k j hkl hjl (Ne.symm hjk))]
      exact h4 j g hj
  · obtain ⟨σ, h1, h2⟩ := h b t' hb
    exact ⟨σ, h1, h2.kept (oq b hba)⟩
theorem TY.putA {K : KE} {G : Nat → Option Nat} {H H1 : Heap} (h : TY K G H) {a t ti n j : Nat} {f : FT} {cell : Cell} {v : Value} (ha : G a = some t) (hs : rgT[t]? = some (.inr (ti, n, f))) (hj : j < n) (hv : OkV G f v)
    (hc : H[a]? = some cell) (e1 : H1[a]? = some (cell.setSlot j v)) (oq : ∀ q : Nat, q ≠ a → H1[q]? = H[q]?) : TY K G H1 := by
  intro b t' hb
  by_cases hba : b = a
  · subst hba
    cases ha.symm.trans hb
    refine ⟨_, hs, ?_⟩
    obtain ⟨c, h1, h2, h3, h5, h4⟩ := h.at ha hs
    cases hc.symm.trans h1
    refine ⟨_, e1, h2, h3, by rw [k2_slotsz]; exact h5, fun i hi => ?_⟩
    by_cases hij : i = j
    · subst hij
      obtain ⟨v0, q1, -⟩ := h4 i hi
      exact ⟨v, Cell.slots_setSlot_self _ (k2_hasslot q1), hv⟩
    · rw [slot_ne _ _ (Ne.symm hij)]
      exact h4 i hi
  · obtain ⟨σ, h1, h2⟩ := h b t' hb
    exact ⟨σ, h1, h2.kept (oq b hba)⟩
/-- reading behind a write of one slot -/
theorem fI_set {H H1 : Heap} {a i : Nat} {cell : Cell} {x : Int32} (hc : H[a]? = some cell) (hi : i < cell.slots.size) (e1 : H1[a]? = some (cell.setSlot i (.int x))) : fI H1 a i = x := fI_at e1 (Cell.slots_setSlot_self _ hi)
theorem fV_setne {H H1 : Heap} {a i j : Nat} {cell : Cell} {v : Value} (hc : H[a]? = some cell) (e1 : H1[a]? = some (cell.setSlot i v)) (hij : j ≠ i) : fV H1 a j = fV H a j := by
  simp only [fV, e1, hc]
  rw [slot_ne _ _ (Ne.symm hij)]
theorem fI_setne {H H1 : Heap} {a i j : Nat} {cell : Cell} {v : Value} (hc : H[a]? = some cell) (e1 : H1[a]? = some (cell.setSlot i v)) (hij : j ≠ i) : fI H1 a j = fI H a j := by simp only [fI, fV_setne hc e1 hij]
theorem fR_setne {H H1 : Heap} {a i j : Nat} {cell : Cell} {v : Value} (hc : H[a]? = some cell) (e1 : H1[a]? = some (cell.setSlot i v)) (hij : j ≠ i) : fR H1 a j = fR H a j := by simp only [fR, fV_setne hc e1 hij]
/-- what one write leaves: all but place i of cell a is as it was, there it is v -/
def Wr (H H1 : Heap) (a i : Nat) (v : Value) : Prop := H1.size = H.size ∧ (∀ q : Nat, q ≠ a → H1[q]? = H[q]?) ∧ fV H1 a i = v ∧ ∀ j : Nat, j ≠ i → fV H1 a j = fV H a j
theorem Wr.off {H H1 : Heap} {a i : Nat} {v : Value} (h : Wr H H1 a i v) {q : Nat} (hq : q ≠ a) : H1[q]? = H[q]? := h.2.1 q hq
theorem Wr.I {H H1 : Heap} {a i : Nat} {x : Int32} (h : Wr H H1 a i (.int x)) : fI H1 a i = x := by simp [fI, h.2.2.1]
theorem Wr.R {H H1 : Heap} {a i : Nat} {x : Nat} (h : Wr H H1 a i (.ref x)) : fR H1 a i = x := by simp [fR, h.2.2.1]
theorem Wr.neI {H H1 : Heap} {a i : Nat} {v : Value} (h : Wr H H1 a i v) {q j : Nat} (hq : q ≠ a ∨ j ≠ i) : fI H1 q j = fI H q j := by
  by_cases e : q = a
  · subst e
    simp only [fI, h.2.2.2 j (hq.resolve_left (fun z => z rfl))]
  · exact fI_kept (h.2.1 q e)
theorem Wr.neV {H H1 : Heap} {a i : Nat} {v : Value} (h : Wr H H1 a i v) {q j : Nat} (hq : q ≠ a ∨ j ≠ i) : fV H1 q j = fV H q j := by
  by_cases e : q = a
  · subst e
    exact h.2.2.2 j (hq.resolve_left (fun z => z rfl))
  · exact fV_kept (h.2.1 q e)
theorem Wr.neR {H H1 : Heap} {a i : Nat} {v : Value} (h : Wr H H1 a i v) {q j : Nat} (hq : q ≠ a ∨ j ≠ i) : fR H1 q j = fR H q j := by
  simp only [fR, h.neV hq]
theorem G_ne {G : Nat → Option Nat} {a b t u : Nat} (ha : G a = some t) (hb : G b = some u) (h : t ≠ u) : a ≠ b := by
  intro e
  subst e
  exact h (Option.some.inj (ha.symm.trans hb))
end
section
/-! ===== contracts over the typed heap ===== -/
def AE (G : Nat → Option Nat) (eff : List Nat) (sz : Nat) : Nat → Prop := fun q => (∃ t, G q = some t ∧ t ∈ eff) ∨ sz ≤ q
def QX (post : Option Value → Heap → Prop) (A : Nat → Prop) : Array Value → State → Outcome → State → Prop := fun _ st oc t => ∃ v : Option Value, oc = .returned v ∧ post v t.heap ∧ va_F A st t
def MX (l : Launch) (K : KE) (y : MethodName) (b : ByteArray) (n : Nat) (r : Option FieldType) (fr lo mc ms : Nat) (av : List Value) (H0 : Heap) (A : Nat → Prop) (post : Option Value → Heap → Prop) : Prop :=
  Met l y (wsY y b n r) { frames := fr, cells := mc, slots := ms, locals := lo } (va_Pc av (fun U => U.heap = H0 ∧ KT K U)) (QX post A) mc ms A
def CX (p : Program) (K : KE) (s : State) (m : MethodId) (args : Array Value) (meth : Method) (c : Code) (own : String) (b : ByteArray) (n : Nat) (r : Option FieldType) (nm : String) : Prop :=
  p.tables.exec = Jvm.exec ∧ c.code = b ∧ c.maxLocals = n ∧ s.vm.findClass own = some m.cls ∧ (∀ w ∈ okW, w.before args s = true) ∧ KT K s ∧ meth.sig.returnType = r ∧ meth.locks = false ∧ meth.name = nm
theorem AE_sub {G G0 : Nat → Option Nat} {e1 e0 : List Nat} {z1 z0 : Nat} (hG : ∀ q, q < z0 → G q = G0 q) (hs : ∀ t ∈ e1, t ∈ e0) (hz : z0 ≤ z1) : ∀ q, AE G e1 z1 q → AE G0 e0 z0 q := by
  intro q h
  by_cases hq : q < z0
  · rcases h with ⟨t, h1, h2⟩ | h
    · exact Or.inl ⟨t, by rw [← hG q hq]; exact h1, hs t h2⟩
    · omega
  · exact Or.inr (Nat.not_lt.mp hq)
theorem AE_not {G : Nat → Option Nat} {e : List Nat} {z q t : Nat} (h : G q = some t) (hn : t ∉ e) (hz : q < z) : ¬ AE G e z q := by
  intro h2
  rcases h2 with ⟨u, h1, h3⟩ | h3
  · cases h.symm.trans h1
    exact hn h3
  · omega
theorem AE_in {G : Nat → Option Nat} {e : List Nat} {z q t : Nat} (h : G q = some t) (hn : t ∈ e) : AE G e z q := Or.inl ⟨t, h, hn⟩
theorem MX.of {l : Launch} {K : KE} {y : MethodName} {b : ByteArray} {n : Nat} {r : Option FieldType} {fr lo mc ms : Nat} {av : List Value} {H0 : Heap} {A : Nat → Prop} {post : Option Value → Heap → Prop} (hy : plainName y.cls = true) (hn : (lg_sl av).length ≤ n)
    (body : ∀ (p : Program) (e : Env) (s : State) (m : MethodId) (below : List Frame) (meth : Method) (c : Code) (ls : Array Slot) (Q : State → Prop), CX p K s m av.toArray meth c y.cls b n r y.name → s.heap = H0 → lv_has ls n (lv_args 0 av) → Q = MQ below (QX post A) av.toArray s mc ms A →
      W p l e { frames := fr, cells := mc, slots := ms, locals := lo } s m av.toArray below meth c H0 [] 0 0 Q (F0 m 0 ls [])) : MX l K y b n r fr lo mc ms av H0 A post := by
  refine Met.ofW (cc := b) (maxL := n) (ret := r) hy rfl ?_
  intro p e s m args below meth c s₁ B hml hv
  obtain ⟨rfl, hH, hK⟩ := hv
  have hts := atoms_spec (ws := wsY y b n r) B.pre
  have hl := lv_entry av (n := n) hn
  rw [lg_entry_eq]
  rw [hH]
  exact body p e s m below meth c _ _ ⟨B.exec, B.bytes, hml, findClass_of_methodNamed B.named, fun w hw => hts w (List.mem_cons_of_mem _ hw), hK, B.returns, B.notSynchronized, (name_of_methodNamed B.named B.method).1⟩ hH hl rfl
section XR
variable {p : Program} {l : Launch} {e : Env} {R : Room} {s : State} {m : MethodId} {args : Array Value} {below : List Frame} {meth : Method} {c : Code} {H : Heap} {locs : List Loc} {cells slots : Nat} {Q : State → Prop}
variable {K : KE} {own nm : String} {b : ByteArray} {n : Nat} {r : Option FieldType} {pc : Nat} {ls : Array Slot} {rest st : List Value} {A A0 A1 : Nat → Prop} {H0 : Heap} {G : Nat → Option Nat} {post : Option Value → Heap → Prop} {mc ms : Nat}
/-! returns -/
theorem x_iret (C : CX p K s m args meth c own b n (some .int) nm) (hQ : Q = MQ below (QX post A) args s mc ms A) {v : Int32} (hd : decode b pc = .ok (.ireturn, 1)) (hS : va_S A s.heap H locs) (h1 : cells ≤ mc) (h2 : slots ≤ ms) (hp : post (some (.int v)) H) : W p l e R s m args below meth c H locs cells slots Q (F0 m pc ls [.int v]) := by
  obtain ⟨hx, hb, hml, hown, hts, hK, hr, hlocks, hnm⟩ := C
  subst hQ
  exact W.widen h1 h2 (W.iret hx hb hr (fun t ht _ => ⟨_, rfl, by rw [ht]; exact hp, hS.F ht⟩) hS.2.2 hd)
theorem x_zret (C : CX p K s m args meth c own b n (some .boolean) nm) (hQ : Q = MQ below (QX post A) args s mc ms A) {v : Int32} (hv : v = 0 ∨ v = 1) (hd : decode b pc = .ok (.ireturn, 1)) (hS : va_S A s.heap H locs) (h1 : cells ≤ mc) (h2 : slots ≤ ms) (hp : post (some (.int v)) H) : W p l e R s m args below meth c H locs cells slots Q (F0 m pc ls [.int v]) := by
  obtain ⟨hx, hb, hml, hown, hts, hK, hr, hlocks, hnm⟩ := C
  subst hQ
  exact W.widen h1 h2 (W.zret hx hb hr (by rcases hv with rfl | rfl <;> rfl) (fun t ht _ => ⟨_, rfl, by rw [ht]; exact hp, hS.F ht⟩) hS.2.2 hd)
theorem x_vret (C : CX p K s m args meth c own b n none nm) (hQ : Q = MQ below (QX post A) args s mc ms A) (hd : decode b pc = .ok (.return_, 1)) (hS : va_S A s.heap H locs) (h1 : cells ≤ mc) (h2 : slots ≤ ms) (hp : post none H) : W p l e R s m args below meth c H locs cells slots Q (F0 m pc ls []) := by
  obtain ⟨hx, hb, hml, hown, hts, hK, hr, hlocks, hnm⟩ := C
  subst hQ
  exact W.widen h1 h2 (W.vret hx hb hr (fun t ht _ => ⟨_, rfl, by rw [ht]; exact hp, hS.F ht⟩) hS.2.2 hd)
theorem x_aret {C0 : String} (C : CX p K s m args meth c own b n (some (.object C0)) nm) (hQ : Q = MQ below (QX post A) args s mc ms A) {v : Value} (hv : v = .null ∨ ∃ a, v = .ref a) (hd : decode b pc = .ok (.areturn, 1)) (hS : va_S A s.heap H locs) (h1 : cells ≤ mc) (h2 : slots ≤ ms) (hp : post (some v) H) : W p l e R s m args below meth c H locs cells slots Q (F0 m pc ls [v]) := by
  obtain ⟨hx, hb, hml, hown, hts, hK, hr, hlocks, hnm⟩ := C
  subst hQ
  exact W.widen h1 h2 (W.aret hx hb hr (Or.inl ⟨_, rfl⟩) hv (fun t ht _ => ⟨_, rfl, by rw [ht]; exact hp, hS.F ht⟩) hS.2.2 hd)
/-! fields -/
theorem x_apart {ci N : Nat} {Cn : String} {T : u_T} (hK : KT K s) (hts : ∀ w ∈ okW, w.before args s = true) (hin : ∀ w ∈ u_ws Cn T N, w ∈ okW) (ty : Nat → FieldType) (hty : ∀ k, k < N → parseFieldDescriptor (T k).2.2.1 = some (ty k)) (hnm : ∀ a, a < N → ∀ b, b < N → a ≠ b → (T a).2.1 ≠ (T b).2.1) (hc : vwCl[ci]? = some (Cn, T, N)) : ∀ x y, x < N → y < N → x ≠ y → K.1.2 ci x ≠ K.1.2 ci y :=
  va_apart (own := "") hts hin ty hty hnm hK.1 hc
theorem x_get (C : CX p K s m args meth c own b n r nm) {ci k N idx a : Nat} {Cn : String} {T : u_T} {v : Value} {cell : Cell} (hc : vwCl[ci]? = some (Cn, T, N)) (hin : ∀ w ∈ u_ws Cn T N, w ∈ okW) (hk : k < N) (hw : Cond.fieldLink own idx (T k).1 (T k).2.1 (T k).2.2.1 ∈ okW)
    (h1 : H[a]? = some cell) (h2 : cell.vm = .none) (h3 : cell.slots[K.1.2 ci k]? = some v) (hd : decode b pc = .ok (.getfield idx, 3)) (kk : W p l e R s m args below meth c H locs cells slots Q (F0 m (pc + 3) ls (v :: rest))) : W p l e R s m args below meth c H locs cells slots Q (F0 m pc ls (.ref a :: rest)) := by
  obtain ⟨hx, hb, hml, hown, hts, hK, hr, hlocks, hnm⟩ := C
  obtain ⟨hS, hfc, kC, hkC, hkind⟩ := hK.1.1 ci _ hc
  obtain ⟨cf, kf, fi, f, hi, hsl⟩ := hS k hk
  exact W.getf hx hb hown (hts _ hw) hi (u_facts hfc hkC (u_lays hts hin hk) hi).1 h1 (by rw [h2]; exact fun h => by cases h) (v := v) (by rw [hsl]; exact h3) rfl rfl hd kk
/-- an int field is read -/
theorem x_geti (C : CX p K s m args meth c own b n r nm) (hT : TY K G H) {ci k N idx a t : Nat} {Cn : String} {T : u_T} {fs : List FT} {lo hi : Int} (hc : vwCl[ci]? = some (Cn, T, N)) (hin : ∀ w ∈ u_ws Cn T N, w ∈ okW) (hk : k < N) (hw : Cond.fieldLink own idx (T k).1 (T k).2.1 (T k).2.2.1 ∈ okW)
    (hG : G a = some t) (hs : rgT[t]? = some (.inl (ci, fs))) (hf : fs[k]? = some (0, lo, hi)) (hd : decode b pc = .ok (.getfield idx, 3))
    (kk : lo ≤ (fI H a (K.1.2 ci k)).toInt ∧ (fI H a (K.1.2 ci k)).toInt ≤ hi → W p l e R s m args below meth c H locs cells slots Q (F0 m (pc + 3) ls (.int (fI H a (K.1.2 ci k)) :: rest))) : W p l e R s m args below meth c H locs cells slots Q (F0 m pc ls (.ref a :: rest)) := by
  obtain ⟨cell, h1, h2, -, h3, h4, h5⟩ := hT.fint hG hs hf
  exact x_get C hc hin hk hw h1 h2 h3 hd (kk ⟨h4, h5⟩)
theorem x_getr (C : CX p K s m args meth c own b n r nm) (hT : TY K G H) {ci k N idx a t : Nat} {Cn : String} {T : u_T} {fs : List FT} {cc bb : Int} (hc : vwCl[ci]? = some (Cn, T, N)) (hin : ∀ w ∈ u_ws Cn T N, w ∈ okW) (hk : k < N) (hw : Cond.fieldLink own idx (T k).1 (T k).2.1 (T k).2.2.1 ∈ okW)
    (hG : G a = some t) (hs : rgT[t]? = some (.inl (ci, fs))) (hf : fs[k]? = some (2, cc, bb)) (hd : decode b pc = .ok (.getfield idx, 3))
    (kk : G (fR H a (K.1.2 ci k)) = some cc.toNat → W p l e R s m args below meth c H locs cells slots Q (F0 m (pc + 3) ls (.ref (fR H a (K.1.2 ci k)) :: rest))) : W p l e R s m args below meth c H locs cells slots Q (F0 m pc ls (.ref a :: rest)) := by
  obtain ⟨cell, h1, h2, -, h3, h4⟩ := hT.fref hG hs hf
  exact x_get C hc hin hk hw h1 h2 h3 hd (kk h4)
theorem x_getn (C : CX p K s m args meth c own b n r nm) (hT : TY K G H) {ci k N idx a t : Nat} {Cn : String} {T : u_T} {fs : List FT} {cc bb : Int} (hc : vwCl[ci]? = some (Cn, T, N)) (hin : ∀ w ∈ u_ws Cn T N, w ∈ okW) (hk : k < N) (hw : Cond.fieldLink own idx (T k).1 (T k).2.1 (T k).2.2.1 ∈ okW)
    (hG : G a = some t) (hs : rgT[t]? = some (.inl (ci, fs))) (hf : fs[k]? = some (3, cc, bb)) (hd : decode b pc = .ok (.getfield idx, 3))
    (k0 : fV H a (K.1.2 ci k) = .null → W p l e R s m args below meth c H locs cells slots Q (F0 m (pc + 3) ls (.null :: rest)))
    (k1 : fV H a (K.1.2 ci k) = .ref (fR H a (K.1.2 ci k)) → G (fR H a (K.1.2 ci k)) = some cc.toNat → W p l e R s m args below meth c H locs cells slots Q (F0 m (pc + 3) ls (.ref (fR H a (K.1.2 ci k)) :: rest))) : W p l e R s m args below meth c H locs cells slots Q (F0 m pc ls (.ref a :: rest)) := by
  obtain ⟨cell, h1, h2, -, h3, h4⟩ := hT.fnul hG hs hf
  rcases h4 with h4 | ⟨h4, h5⟩
  · exact x_get C hc hin hk hw h1 h2 (by rw [h3, h4]) hd (k0 h4)
  · exact x_get C hc hin hk hw h1 h2 (by rw [h3, h4]) hd (k1 h4 h5)
/-- a field of a typed cell is written -/
theorem x_put (C : CX p K s m args meth c own b n r nm) (hT : TY K G H) (hS0 : va_S A H0 H locs) {ci k N idx a t : Nat} {Cn : String} {T : u_T} {fs : List FT} {f : FT} {ty0 : Nat → FieldType} {v : Value} (hc : vwCl[ci]? = some (Cn, T, N)) (hin : ∀ w ∈ u_ws Cn T N, w ∈ okW) (hty : ∀ k, k < N → parseFieldDescriptor (T k).2.2.1 = some (ty0 k)) (hnm : ∀ a, a < N → ∀ b, b < N → a ≠ b → (T a).2.1 ≠ (T b).2.1) (hk : k < N) (hfin : (T k).2.2.2 = false) (hw : Cond.fieldLink own idx (T k).1 (T k).2.1 (T k).2.2.1 ∈ okW)
    (hG : G a = some t) (hs : rgT[t]? = some (.inl (ci, fs))) (hlen : fs.length = N) (hf : fs[k]? = some f) (hv : OkV G f v) (hn1 : narrow (ty0 k) v = v) (hn2 : fits (ty0 k) v = true) (hA : A a) (hd : decode b pc = .ok (.putfield idx, 3))
    (kk : ∀ (H1 : Heap) (locs1 : List Loc), TY K G H1 → va_S A H0 H1 locs1 → Wr H H1 a (K.1.2 ci k) v → W p l e R s m args below meth c H1 locs1 cells slots Q (F0 m (pc + 3) ls rest)) : W p l e R s m args below meth c H locs cells slots Q (F0 m pc ls (v :: .ref a :: rest)) := by
  obtain ⟨hx, hb, hml, hown, hts, hK, hr, hlocks, hnm0⟩ := C
  have hap := x_apart hK hts hin ty0 hty hnm hc
  obtain ⟨cell, h1, h2, h3, h4⟩ := hT.at hG hs
  obtain ⟨v0, q1, -⟩ := h4 k _ hf
  obtain ⟨hS, hfc, kC, hkC, hkind⟩ := hK.1.1 ci _ hc
  obtain ⟨cf, kf, fi, fd, hi, hsl⟩ := hS k hk
  have hlay := hts _ (hin _ (u_in_lay hk))
  unfold u_lay at hlay
  rw [if_neg (by rw [hfin]; decide)] at hlay
  have h6 := u_store hfc hkC hkind hlay hi (hty k hk) hn1 hn2
  refine W.putK hx hb (f := fd) ⟨hown, hts _ hw, ⟨_, _, _, hi⟩, (u_facts hfc hkC (u_lays hts hin hk) hi).1⟩ (by rw [h2]; exact h6) h1 h3 (by rw [hsl]; exact k2_hasslot q1) rfl rfl hd fun H' e1 e2 e3 => ?_
  rw [hsl] at e1 ⊢
  exact kk H' _ (hT.putF hG hs (by rw [hlen]; exact hap) hf hv h1 e1 e3) (hS0.put e2 e3 hA) ⟨e2, e3, fV_at e1 (Cell.slots_setSlot_self _ (k2_hasslot q1)), fun j hj => fV_setne h1 e1 hj⟩
/-! arrays -/
theorem x_arr {U : State} (hK : KT K U) {ti : Nat} {ty : FieldType} (ht : (tyL K.2.1)[ti]? = some (K.2.1 ti, ty)) {cell : Cell} (h1 : cell.cls = K.2.1 ti) (h2 : cell.vm = .none) : U.isArrayOf cell ty := by
  obtain ⟨-, kA, hkA, comp, hk⟩ := (hK.1.2 ti _ ht).1 0 (fun _ => .null)
  exact ⟨(fun q h => by rw [h2] at h; cases h), kA, (by rw [h1]; exact hkA), comp, hk⟩
theorem x_in {j : Int32} {N : Nat} (h0 : 0 ≤ j.toInt) (h1 : j.toInt < N) : ¬ (j < 0 ∨ N ≤ j.toNatClampNeg) ∧ j.toNatClampNeg < N := by
  have := vp_in_iff.mpr ⟨h0, h1⟩
  exact ⟨this, Nat.not_le.mp fun q => this (Or.inr q)⟩
theorem x_iald (C : CX p K s m args meth c own b n r nm) (hT : TY K G H) {a t N : Nat} {lo hi : Int} {j : Int32} (hG : G a = some t) (hs : rgT[t]? = some (.inr (0, N, (0, lo, hi)))) (h0 : 0 ≤ j.toInt) (h1 : j.toInt < N) (hd : decode b pc = .ok (.iaload, 1))
    (kk : lo ≤ (fI H a j.toNatClampNeg).toInt ∧ (fI H a j.toNatClampNeg).toInt ≤ hi → W p l e R s m args below meth c H locs cells slots Q (F0 m (pc + 1) ls (.int (fI H a j.toNatClampNeg) :: rest))) : W p l e R s m args below meth c H locs cells slots Q (F0 m pc ls (.int j :: .ref a :: rest)) := by
  obtain ⟨hx, hb, hml, hown, hts, hK, hr, hlocks, hnm⟩ := C
  obtain ⟨i1, i2⟩ := x_in h0 h1
  obtain ⟨cell, q1, q2, q3, q4, q5, q6, q7⟩ := hT.aint hG hs i2
  exact W.iald hx hb q1 (x_arr hK (ti := 0) rfl q3 q2) (by rw [q2]; exact fun h => by cases h) (by rw [q4]; exact i1) q5 rfl rfl hd (kk ⟨q6, q7⟩)
theorem x_iast (C : CX p K s m args meth c own b n r nm) (hT : TY K G H) (hS0 : va_S A H0 H locs) {a t N : Nat} {lo hi : Int} {j x : Int32} (hG : G a = some t) (hs : rgT[t]? = some (.inr (0, N, (0, lo, hi)))) (h0 : 0 ≤ j.toInt) (h1 : j.toInt < N) (hv : lo ≤ x.toInt ∧ x.toInt ≤ hi) (hA : A a) (hd : decode b pc = .ok (.iastore, 1))
    (kk : ∀ (H1 : Heap) (locs1 : List Loc), TY K G H1 → va_S A H0 H1 locs1 → Wr H H1 a j.toNatClampNeg (.int x) → W p l e R s m args below meth c H1 locs1 cells slots Q (F0 m (pc + 1) ls rest)) : W p l e R s m args below meth c H locs cells slots Q (F0 m pc ls (.int x :: .int j :: .ref a :: rest)) := by
  obtain ⟨hx, hb, hml, hown, hts, hK, hr, hlocks, hnm⟩ := C
  obtain ⟨i1, i2⟩ := x_in h0 h1
  obtain ⟨cell, q1, q2, q3, q4, q5, q6, q7⟩ := hT.aint hG hs i2
  refine W.iast hx hb q1 (x_arr hK (ti := 0) rfl q3 q2) (by rw [q2]; exact fun h => by cases h) (by rw [q4]; exact i1) rfl rfl hd fun H1 e1 e2 e3 => ?_
  exact kk H1 _ (hT.putA hG hs i2 ⟨x, rfl, hv.1, hv.2⟩ q1 e1 e3) (hS0.put e2 e3 hA) ⟨e2, e3, fV_at e1 (Cell.slots_setSlot_self _ (k2_hasslot q5)), fun j hj => fV_setne q1 e1 hj⟩
theorem x_aald (C : CX p K s m args meth c own b n r nm) (hT : TY K G H) {a t ti N : Nat} {cc bb : Int} {j : Int32} {ty : FieldType} (ht : (tyL K.2.1)[ti]? = some (K.2.1 ti, ty)) (hty : ty.isReference = true) (hG : G a = some t) (hs : rgT[t]? = some (.inr (ti, N, (2, cc, bb)))) (h0 : 0 ≤ j.toInt) (h1 : j.toInt < N) (hd : decode b pc = .ok (.aaload, 1))
    (kk : G (fR H a j.toNatClampNeg) = some cc.toNat → W p l e R s m args below meth c H locs cells slots Q (F0 m (pc + 1) ls (.ref (fR H a j.toNatClampNeg) :: rest))) : W p l e R s m args below meth c H locs cells slots Q (F0 m pc ls (.int j :: .ref a :: rest)) := by
  obtain ⟨hx, hb, hml, hown, hts, hK, hr, hlocks, hnm⟩ := C
  obtain ⟨i1, i2⟩ := x_in h0 h1
  obtain ⟨cell, q1, q2, q3, q4, q5, q6⟩ := hT.aref hG hs i2
  exact W.aald hx hb q1 (x_arr hK ht q3 q2) hty (by rw [q2]; exact fun h => by cases h) (by rw [q4]; exact i1) q5 rfl rfl hd (kk q6)
theorem x_alen (C : CX p K s m args meth c own b n r nm) (hT : TY K G H) {a t ti N : Nat} {f : FT} {v : Int32} {ty : FieldType} (ht : (tyL K.2.1)[ti]? = some (K.2.1 ti, ty)) (hG : G a = some t) (hs : rgT[t]? = some (.inr (ti, N, f))) (hv : Int32.ofNat N = v) (hd : decode b pc = .ok (.arraylength, 1))
    (kk : W p l e R s m args below meth c H locs cells slots Q (F0 m (pc + 1) ls (.int v :: rest))) : W p l e R s m args below meth c H locs cells slots Q (F0 m pc ls (.ref a :: rest)) := by
  obtain ⟨hx, hb, hml, hown, hts, hK, hr, hlocks, hnm⟩ := C
  obtain ⟨cell, q1, q2, q3, q4⟩ := hT.alen hG hs
  exact W.alen hx hb q1 (x_arr hK ht q3 q2) (by rw [q4]; exact hv) rfl rfl hd kk
/-! calls -/
theorem x_go {a : Array Value} (hr : va_Run p l e R s m args below meth c H locs cells slots mc ms (F0 m pc ls st) rest (QX post A1 a) A1) (hS : va_S A0 H0 H locs) (hA : ∀ q, A1 q → A0 q)
    (kk : ∀ (v : Option Value) (H1 : Heap) (locs1 : List Loc), post v H1 → H.size ≤ H1.size → (∀ q : Nat, q < H.size → ¬ A1 q → H1[q]? = H[q]?) → va_S A0 H0 H1 locs1 → W p l e R s m args below meth c H1 locs1 (cells + mc) (slots + ms) Q (F0 m (pc + 3) ls (v.toList ++ rest))) : W p l e R s m args below meth c H locs cells slots Q (F0 m pc ls st) := by
  intro T hT X
  obtain ⟨v, st₀, t, T', L, h0, X', hL, e1, e2, ⟨v', hv, hp, hz, hk⟩, stp⟩ := hr T hT X
  cases hv
  rw [h0] at hz hk
  obtain ⟨t2, a1, b1⟩ := kk v T'.heap (locs ++ L) (by rw [e1]; exact hp) (by rw [e1]; exact hz) (fun q h1 h2 => by rw [e1]; exact hk q h1 h2)
    ⟨Nat.le_trans hS.1 (by rw [e1]; exact hz), fun q h1 h2 => by rw [e1, hk q (Nat.lt_of_lt_of_le h1 hS.1) (fun z => h2 (hA q z))]; exact hS.2.1 q h1 h2, fun q hq => by
      rcases List.mem_append.mp hq with h | h
      · exact hS.2.2 q h
      · exact hA _ (hL q h)⟩ T' rfl X'
  exact ⟨t2, stp t2 a1, b1⟩
/-- a method's own facts -/
def YV (y : MethodName) (b2 : ByteArray) (n2 : Nat) (r2 : Option FieldType) (np : Nat) : Prop := Cond.instanceMethod y ∈ okW ∧ Cond.selects y.cls y y ∈ okW ∧ Cond.initialized y.cls ∈ okW ∧ Cond.code y b2 n2 r2 ∈ okW ∧ y.cls ≠ "java/lang/invoke/MethodHandle" ∧ y.cls ≠ "java/lang/invoke/VarHandle" ∧ (parseMethodDescriptor y.desc).map (fun d => d.parameters.length) = some np
def YS (y : MethodName) (b2 : ByteArray) (n2 : Nat) (r2 : Option FieldType) (np : Nat) : Prop := Cond.static y ∈ okW ∧ Cond.initialized y.cls ∈ okW ∧ Cond.code y b2 n2 r2 ∈ okW ∧ y.cls ≠ "java/lang/invoke/MethodHandle" ∧ y.cls ≠ "java/lang/invoke/VarHandle" ∧ (parseMethodDescriptor y.desc).map (fun d => d.parameters.length) = some np
def YI (y : MethodName) (b2 : ByteArray) (n2 : Nat) (np : Nat) : Prop := Cond.instanceMethod y ∈ okW ∧ Cond.initialized y.cls ∈ okW ∧ Cond.code y b2 n2 none ∈ okW ∧ y.cls ≠ "java/lang/invoke/MethodHandle" ∧ y.cls ≠ "java/lang/invoke/VarHandle" ∧ (parseMethodDescriptor y.desc).map (fun d => d.parameters.length) = some np
theorem x_blind {av : List Value} {H0 : Heap} : FrameBlind (va_Pc av (fun U => U.heap = H0 ∧ KT K U)) := fun a U g mk q => ⟨q.1, q.2.1, KT.same (u := U) (U := U.calling g mk a) rfl q.2.2⟩
theorem x_callB {y : MethodName} {b2 : ByteArray} {n2 : Nat} {r2 : Option FieldType} {fr lo mc ms np idx : Nat} (hts : ∀ w ∈ okW, w.before args s = true) (hcode : Cond.code y b2 n2 r2 ∈ okW) (hini : Cond.initialized y.cls ∈ okW) (hy : y.cls ≠ "java/lang/invoke/MethodHandle" ∧ y.cls ≠ "java/lang/invoke/VarHandle" ∧ (parseMethodDescriptor y.desc).map (fun d => d.parameters.length) = some np) (hw : Cond.methodLink own idx y ∈ okW) (hR : fr + 1 ≤ R.frames ∧ 8 + (n2 + 11) + lo ≤ R.locals) : CallB R s args own idx y b2 n2 r2 (wsY y b2 n2 r2) { frames := fr, cells := mc, slots := ms, locals := lo } mc ms np :=
  callB_of np hts (good_ws (fun _ h => h) hcode) rfl rfl rfl (hts _ hini) (hts _ hw) hy hR
theorem x_V (C : CX p K s m args meth c own b n r nm) {y : MethodName} {b2 : ByteArray} {n2 : Nat} {r2 : Option FieldType} {fr lo np idx a : Nat} {As : List Value} (hM : MX l K y b2 n2 r2 fr lo mc ms (.ref a :: As) H A1 post) (hY : YV y b2 n2 r2 np) (hw : Cond.methodLink own idx y ∈ okW)
    (hR : (fr + 1 ≤ R.frames ∧ 8 + (n2 + 11) + lo ≤ R.locals) ∧ cells + mc ≤ R.cells ∧ slots + ms ≤ R.slots) (hrecv : ∃ cell : Cell, H[a]? = some cell ∧ cell.vm.isStatics = false ∧ s.vm.findClass y.cls = some cell.cls) (hn : As.length = np) (hsz : ls.size = n) (hst : st = As.reverse ++ .ref a :: rest) (hrm : (rest.map fun v => v.category).sum ≤ 8) (hd : decode b pc = .ok (.invokevirtual idx, 3)) (hS : va_S A0 H0 H locs) (hA : ∀ q, A1 q → A0 q)
    (kk : ∀ (v : Option Value) (H1 : Heap) (locs1 : List Loc), post v H1 → H.size ≤ H1.size → (∀ q : Nat, q < H.size → ¬ A1 q → H1[q]? = H[q]?) → va_S A0 H0 H1 locs1 → W p l e R s m args below meth c H1 locs1 (cells + mc) (slots + ms) Q (F0 m (pc + 3) ls (v.toList ++ rest))) : W p l e R s m args below meth c H locs cells slots Q (F0 m pc ls st) := by
  obtain ⟨hx, hb, hml, hown, hts, hK, hr, hlocks, hnm⟩ := C
  obtain ⟨y1, y2, y3, y4, y5⟩ := hY
  subst hst
  exact x_go (va_runV (As := As) (rest := rest) ⟨hx, hb, hml, hown, hts⟩ hM ⟨x_callB (mc := mc) (ms := ms) hts y4 y3 y5 hw hR.1, hts _ y1, hts _ y2⟩ ⟨x_blind, hrecv, fun U hU hW => ⟨rfl, hU, hK.warm hW⟩⟩ rfl hn hsz rfl (lv_room hrm) hd hR.2) hS hA kk
theorem x_S (C : CX p K s m args meth c own b n r nm) {y : MethodName} {b2 : ByteArray} {n2 : Nat} {r2 : Option FieldType} {fr lo np idx : Nat} {As : List Value} (hM : MX l K y b2 n2 r2 fr lo mc ms As H A1 post) (hY : YS y b2 n2 r2 np) (hw : Cond.methodLink own idx y ∈ okW)
    (hR : (fr + 1 ≤ R.frames ∧ 8 + (n2 + 11) + lo ≤ R.locals) ∧ cells + mc ≤ R.cells ∧ slots + ms ≤ R.slots) (hn : As.length = np) (hsz : ls.size = n) (hst : st = As.reverse ++ rest) (hrm : (rest.map fun v => v.category).sum ≤ 8) (hd : decode b pc = .ok (.invokestatic idx, 3)) (hS : va_S A0 H0 H locs) (hA : ∀ q, A1 q → A0 q)
    (kk : ∀ (v : Option Value) (H1 : Heap) (locs1 : List Loc), post v H1 → H.size ≤ H1.size → (∀ q : Nat, q < H.size → ¬ A1 q → H1[q]? = H[q]?) → va_S A0 H0 H1 locs1 → W p l e R s m args below meth c H1 locs1 (cells + mc) (slots + ms) Q (F0 m (pc + 3) ls (v.toList ++ rest))) : W p l e R s m args below meth c H locs cells slots Q (F0 m pc ls st) := by
  obtain ⟨hx, hb, hml, hown, hts, hK, hr, hlocks, hnm⟩ := C
  obtain ⟨y1, y3, y4, y5⟩ := hY
  subst hst
  exact x_go (va_runS (As := As) (rest := rest) ⟨hx, hb, hml, hown, hts⟩ hM ⟨x_callB (mc := mc) (ms := ms) hts y4 y3 y5 hw hR.1, hts _ y1⟩ ⟨x_blind, fun U hU hW => ⟨rfl, hU, hK.warm hW⟩⟩ rfl hn hsz rfl (lv_room hrm) hd hR.2) hS hA kk
theorem x_I (C : CX p K s m args meth c own b n r nm) {y : MethodName} {b2 : ByteArray} {n2 : Nat} {fr lo np idx a : Nat} {As : List Value} (hM : MX l K y b2 n2 none fr lo mc ms (.ref a :: As) H A1 post) (hY : YI y b2 n2 np) (hy1 : y.name = "<init>") (hw : Cond.methodLink own idx y ∈ okW)
    (hR : (fr + 1 ≤ R.frames ∧ 8 + (n2 + 11) + lo ≤ R.locals) ∧ cells + mc ≤ R.cells ∧ slots + ms ≤ R.slots) (hn : As.length = np) (hsz : ls.size = n) (hst : st = As.reverse ++ .ref a :: rest) (hrm : (rest.map fun v => v.category).sum ≤ 8) (hd : decode b pc = .ok (.invokespecial idx, 3)) (hS : va_S A0 H0 H locs) (hA : ∀ q, A1 q → A0 q)
    (kk : ∀ (v : Option Value) (H1 : Heap) (locs1 : List Loc), post v H1 → H.size ≤ H1.size → (∀ q : Nat, q < H.size → ¬ A1 q → H1[q]? = H[q]?) → va_S A0 H0 H1 locs1 → W p l e R s m args below meth c H1 locs1 (cells + mc) (slots + ms) Q (F0 m (pc + 3) ls (v.toList ++ rest))) : W p l e R s m args below meth c H locs cells slots Q (F0 m pc ls st) := by
  obtain ⟨hx, hb, hml, hown, hts, hK, hr, hlocks, hnm⟩ := C
  obtain ⟨y1, y3, y4, y5⟩ := hY
  subst hst
  exact x_go (va_runI (As := As) (rest := rest) ⟨hx, hb, hml, hown, hts⟩ hM ⟨x_callB (mc := mc) (ms := ms) hts y4 y3 y5 hw hR.1, hy1, hts _ y1⟩ ⟨x_blind, fun U hU hW => ⟨rfl, hU, hK.warm hW⟩⟩ rfl hn hsz rfl (lv_room hrm) hd hR.2) hS hA kk
theorem x_callN {y : MethodName} {host : String} {b2 : ByteArray} {n2 : Nat} {r2 : Option FieldType} {fr lo mc ms np idx : Nat} (hts : ∀ w ∈ okW, w.before args s = true) (hK : KT K s) (hcode : Cond.code y b2 n2 r2 ∈ okW) (hini : Cond.initialized y.cls ∈ okW) (hy : y.cls ≠ "java/lang/invoke/MethodHandle" ∧ y.cls ≠ "java/lang/invoke/VarHandle" ∧ (parseMethodDescriptor y.desc).map (fun d => d.parameters.length) = some np) (hw : Cond.methodLinkNest own idx y host ∈ nwl) (hR : fr + 1 ≤ R.frames ∧ 8 + (n2 + 11) + lo ≤ R.locals) : va_CN R s args own idx y host b2 n2 r2 (wsY y b2 n2 r2) { frames := fr, cells := mc, slots := ms, locals := lo } mc ms np :=
  va_cnB np hts (good_ws (fun _ h => h) hcode) rfl rfl rfl (hK.2.1 _ hw) (hts _ hini) hy hR
theorem x_SN (C : CX p K s m args meth c own b n r nm) {y : MethodName} {host : String} {b2 : ByteArray} {n2 : Nat} {r2 : Option FieldType} {fr lo np idx : Nat} {As : List Value} (hM : MX l K y b2 n2 r2 fr lo mc ms As H A1 post) (hY : YS y b2 n2 r2 np) (hw : Cond.methodLinkNest own idx y host ∈ nwl)
    (hR : (fr + 1 ≤ R.frames ∧ 8 + (n2 + 11) + lo ≤ R.locals) ∧ cells + mc ≤ R.cells ∧ slots + ms ≤ R.slots) (hn : As.length = np) (hsz : ls.size = n) (hst : st = As.reverse ++ rest) (hrm : (rest.map fun v => v.category).sum ≤ 8) (hd : decode b pc = .ok (.invokestatic idx, 3)) (hS : va_S A0 H0 H locs) (hA : ∀ q, A1 q → A0 q)
    (kk : ∀ (v : Option Value) (H1 : Heap) (locs1 : List Loc), post v H1 → H.size ≤ H1.size → (∀ q : Nat, q < H.size → ¬ A1 q → H1[q]? = H[q]?) → va_S A0 H0 H1 locs1 → W p l e R s m args below meth c H1 locs1 (cells + mc) (slots + ms) Q (F0 m (pc + 3) ls (v.toList ++ rest))) : W p l e R s m args below meth c H locs cells slots Q (F0 m pc ls st) := by
  obtain ⟨hx, hb, hml, hown, hts, hK, hr, hlocks, hnm⟩ := C
  obtain ⟨y1, y3, y4, y5⟩ := hY
  subst hst
  exact x_go (va_runSN (As := As) (rest := rest) ⟨hx, hb, hml, hown, hts⟩ hM ⟨x_callN (mc := mc) (ms := ms) hts hK y4 y3 y5 hw hR.1, hts _ y1, trivial⟩ ⟨x_blind, fun U hU hW => ⟨rfl, hU, hK.warm hW⟩⟩ rfl hn hsz rfl (lv_room hrm) hd hR.2) hS hA kk
theorem x_IN (C : CX p K s m args meth c own b n r nm) {y : MethodName} {host : String} {b2 : ByteArray} {n2 : Nat} {fr lo np idx a : Nat} {As : List Value} (hM : MX l K y b2 n2 none fr lo mc ms (.ref a :: As) H A1 post) (hY : YI y b2 n2 np) (hy1 : y.name = "<init>") (hw : Cond.methodLinkNest own idx y host ∈ nwl)
    (hR : (fr + 1 ≤ R.frames ∧ 8 + (n2 + 11) + lo ≤ R.locals) ∧ cells + mc ≤ R.cells ∧ slots + ms ≤ R.slots) (hn : As.length = np) (hsz : ls.size = n) (hst : st = As.reverse ++ .ref a :: rest) (hrm : (rest.map fun v => v.category).sum ≤ 8) (hd : decode b pc = .ok (.invokespecial idx, 3)) (hS : va_S A0 H0 H locs) (hA : ∀ q, A1 q → A0 q)
    (kk : ∀ (v : Option Value) (H1 : Heap) (locs1 : List Loc), post v H1 → H.size ≤ H1.size → (∀ q : Nat, q < H.size → ¬ A1 q → H1[q]? = H[q]?) → va_S A0 H0 H1 locs1 → W p l e R s m args below meth c H1 locs1 (cells + mc) (slots + ms) Q (F0 m (pc + 3) ls (v.toList ++ rest))) : W p l e R s m args below meth c H locs cells slots Q (F0 m pc ls st) := by
  obtain ⟨hx, hb, hml, hown, hts, hK, hr, hlocks, hnm⟩ := C
  obtain ⟨y1, y3, y4, y5⟩ := hY
  subst hst
  exact x_go (va_runIN (As := As) (rest := rest) ⟨hx, hb, hml, hown, hts⟩ hM ⟨x_callN (mc := mc) (ms := ms) hts hK y4 y3 y5 hw hR.1, hy1, hts _ y1⟩ ⟨x_blind, fun U hU hW => ⟨rfl, hU, hK.warm hW⟩⟩ rfl hn hsz rfl (lv_room hrm) hd hR.2) hS hA kk
/-- the receiver of a call -/
theorem x_rv (C : CX p K s m args meth c own b n r nm) (hT : TY K G H) {a t ci N : Nat} {Cn : String} {T : u_T} {fs : List FT} (hc : vwCl[ci]? = some (Cn, T, N)) (hG : G a = some t) (hs : rgT[t]? = some (.inl (ci, fs))) : ∃ cell : Cell, H[a]? = some cell ∧ cell.vm.isStatics = false ∧ s.vm.findClass Cn = some cell.cls := by
  obtain ⟨hx, hb, hml, hown, hts, hK, hr, hlocks, hnm⟩ := C
  obtain ⟨cell, h1, h2, h3, -⟩ := hT.at hG hs
  exact ⟨cell, h1, by rw [h3]; rfl, by rw [h2]; exact (hK.1.1 ci _ hc).2.1⟩
end XR
end
section
theorem tb_1 {w : Cond} (h : w ∈ tables_1_1) : w ∈ lw_tbl := List.mem_append_right _ (show w ∈ tables_1 from List.mem_append_left _ h)
theorem tb_2 {w : Cond} (h : w ∈ tables_1_2) : w ∈ lw_tbl := List.mem_append_right _ (show w ∈ tables_1 from List.mem_append_right _ (List.mem_append_left _ h))
theorem tb_3 {w : Cond} (h : w ∈ tables_1_3) : w ∈ lw_tbl := List.mem_append_right _ (show w ∈ tables_1 from List.mem_append_right _ (List.mem_append_right _ (List.mem_append_left _ h)))
theorem tb_4 {w : Cond} (h : w ∈ tables_1_4) : w ∈ lw_tbl := List.mem_append_right _ (show w ∈ tables_1 from List.mem_append_right _ (List.mem_append_right _ (List.mem_append_right _ (List.mem_append_left _ h))))
theorem tb_5 {w : Cond} (h : w ∈ tables_1_5) : w ∈ lw_tbl := List.mem_append_right _ (show w ∈ tables_1 from List.mem_append_right _ (List.mem_append_right _ (List.mem_append_right _ (List.mem_append_right _ (List.mem_append_left _ h)))))
theorem tb_6 {w : Cond} (h : w ∈ tables_1_6) : w ∈ lw_tbl := List.mem_append_right _ (show w ∈ tables_1 from List.mem_append_right _ (List.mem_append_right _ (List.mem_append_right _ (List.mem_append_right _ (List.mem_append_right _ (List.mem_append_left _ h))))))
theorem tb_7 {w : Cond} (h : w ∈ tables_1_7) : w ∈ lw_tbl := List.mem_append_right _ (show w ∈ tables_1 from List.mem_append_right _ (List.mem_append_right _ (List.mem_append_right _ (List.mem_append_right _ (List.mem_append_right _ (List.mem_append_right _ (List.mem_append_left _ h)))))))
theorem tb_8 {w : Cond} (h : w ∈ tables_1_8) : w ∈ lw_tbl := List.mem_append_right _ (show w ∈ tables_1 from List.mem_append_right _ (List.mem_append_right _ (List.mem_append_right _ (List.mem_append_right _ (List.mem_append_right _ (List.mem_append_right _ (List.mem_append_right _ (h))))))))
theorem tp_1 {q : MethodName × Nat} (h : q ∈ lw_privs_1) : Cond.selects q.1.cls q.1 q.1 ∈ lw_tbl := List.mem_append_left _ (List.mem_map.mpr ⟨q, (show q ∈ lw_privs from List.mem_append_left _ h), rfl⟩)
theorem tp_2 {q : MethodName × Nat} (h : q ∈ lw_privs_2) : Cond.selects q.1.cls q.1 q.1 ∈ lw_tbl := List.mem_append_left _ (List.mem_map.mpr ⟨q, (show q ∈ lw_privs from List.mem_append_right _ (List.mem_append_left _ h)), rfl⟩)
theorem tp_3 {q : MethodName × Nat} (h : q ∈ lw_privs_3) : Cond.selects q.1.cls q.1 q.1 ∈ lw_tbl := List.mem_append_left _ (List.mem_map.mpr ⟨q, (show q ∈ lw_privs from List.mem_append_right _ (List.mem_append_right _ (List.mem_append_left _ h))), rfl⟩)
theorem tp_4 {q : MethodName × Nat} (h : q ∈ lw_privs_4) : Cond.selects q.1.cls q.1 q.1 ∈ lw_tbl := List.mem_append_left _ (List.mem_map.mpr ⟨q, (show q ∈ lw_privs from List.mem_append_right _ (List.mem_append_right _ (List.mem_append_right _ (List.mem_append_left _ h)))), rfl⟩)
theorem tp_5 {q : MethodName × Nat} (h : q ∈ lw_privs_5) : Cond.selects q.1.cls q.1 q.1 ∈ lw_tbl := List.mem_append_left _ (List.mem_map.mpr ⟨q, (show q ∈ lw_privs from List.mem_append_right _ (List.mem_append_right _ (List.mem_append_right _ (List.mem_append_right _ (List.mem_append_left _ h))))), rfl⟩)
theorem tp_6 {q : MethodName × Nat} (h : q ∈ lw_privs_6) : Cond.selects q.1.cls q.1 q.1 ∈ lw_tbl := List.mem_append_left _ (List.mem_map.mpr ⟨q, (show q ∈ lw_privs from List.mem_append_right _ (List.mem_append_right _ (List.mem_append_right _ (List.mem_append_right _ (List.mem_append_right _ (List.mem_append_left _ h)))))), rfl⟩)
theorem tp_7 {q : MethodName × Nat} (h : q ∈ lw_privs_7) : Cond.selects q.1.cls q.1 q.1 ∈ lw_tbl := List.mem_append_left _ (List.mem_map.mpr ⟨q, (show q ∈ lw_privs from List.mem_append_right _ (List.mem_append_right _ (List.mem_append_right _ (List.mem_append_right _ (List.mem_append_right _ (List.mem_append_right _ (List.mem_append_left _ h))))))), rfl⟩)
theorem tp_8 {q : MethodName × Nat} (h : q ∈ lw_privs_8) : Cond.selects q.1.cls q.1 q.1 ∈ lw_tbl := List.mem_append_left _ (List.mem_map.mpr ⟨q, (show q ∈ lw_privs from List.mem_append_right _ (List.mem_append_right _ (List.mem_append_right _ (List.mem_append_right _ (List.mem_append_right _ (List.mem_append_right _ (List.mem_append_right _ (h)))))))), rfl⟩)
theorem wIN_L : Cond.initialized RL ∈ okW := ok_of (tb_1 (List.mem_of_getElem? (i := 0) rfl)) rfl
theorem wIN_X9 : Cond.initialized RX9 ∈ okW := ok_of (tb_1 (List.mem_of_getElem? (i := 1) rfl)) rfl
theorem wIN_X8 : Cond.initialized RX8 ∈ okW := ok_of (tb_1 (List.mem_of_getElem? (i := 2) rfl)) rfl
theorem wIN_X0 : Cond.initialized RX0 ∈ okW := ok_of (tb_1 (List.mem_of_getElem? (i := 3) rfl)) rfl
theorem wIN_X7 : Cond.initialized RX7 ∈ okW := ok_of (tb_1 (List.mem_of_getElem? (i := 4) rfl)) rfl
theorem wIN_X4 : Cond.initialized RX4 ∈ okW := ok_of (tb_1 (List.mem_of_getElem? (i := 5) rfl)) rfl
theorem wIN_X6 : Cond.initialized RX6 ∈ okW := ok_of (tb_1 (List.mem_of_getElem? (i := 6) rfl)) rfl
theorem wIN_X3 : Cond.initialized RX3 ∈ okW := ok_of (tb_1 (List.mem_of_getElem? (i := 7) rfl)) rfl
theorem wIN_X2 : Cond.initialized RX2 ∈ okW := ok_of (tb_1 (List.mem_of_getElem? (i := 8) rfl)) rfl
theorem wIN_X1 : Cond.initialized RX1 ∈ okW := ok_of (tb_1 (List.mem_of_getElem? (i := 9) rfl)) rfl
theorem wIN_X5 : Cond.initialized RX5 ∈ okW := ok_of (tb_1 (List.mem_of_getElem? (i := 10) rfl)) rfl
theorem wIN_X10 : Cond.initialized RX10 ∈ okW := ok_of (tb_1 (List.mem_of_getElem? (i := 11) rfl)) rfl
theorem wIN_J7 : Cond.initialized RJ7 ∈ okW := ok_of (tb_1 (List.mem_of_getElem? (i := 12) rfl)) rfl
theorem wIN_J0 : Cond.initialized RJ0 ∈ okW := ok_of (tb_1 (List.mem_of_getElem? (i := 13) rfl)) rfl
theorem wIN_J1 : Cond.initialized RJ1 ∈ okW := ok_of (tb_1 (List.mem_of_getElem? (i := 14) rfl)) rfl
theorem wIN_J3 : Cond.initialized RJ3 ∈ okW := ok_of (tb_1 (List.mem_of_getElem? (i := 15) rfl)) rfl
theorem wIN_J2 : Cond.initialized RJ2 ∈ okW := ok_of (tb_1 (List.mem_of_getElem? (i := 16) rfl)) rfl
theorem wIN_J10 : Cond.initialized RJ10 ∈ okW := ok_of (tb_1 (List.mem_of_getElem? (i := 17) rfl)) rfl
theorem wIN_J9 : Cond.initialized RJ9 ∈ okW := ok_of (tb_1 (List.mem_of_getElem? (i := 18) rfl)) rfl
theorem wC_L_7 : Cond.classLink RL 7 RX9 ∈ okW := ok_of (tb_1 (List.mem_of_getElem? (i := 19) rfl)) rfl
theorem wIS_X9 : Cond.instantiable RX9 12 ∈ okW := ok_of (tb_1 (List.mem_of_getElem? (i := 20) rfl)) rfl
theorem wM_L_9 : Cond.methodLink RL 9 yX9_init ∈ okW := ok_of (tb_1 (List.mem_of_getElem? (i := 21) rfl)) rfl
theorem wIM_X9_init : Cond.instanceMethod yX9_init ∈ okW := ok_of (tb_1 (List.mem_of_getElem? (i := 22) rfl)) rfl
theorem wCD_X9_init : Cond.code yX9_init cX9_init 1 none ∈ okW := ok_of (tb_1 (List.mem_of_getElem? (i := 23) rfl)) rfl
theorem wM_X9_3 : Cond.methodLink RX9 3 objectInit ∈ okW := ok_of (tb_1 (List.mem_of_getElem? (i := 24) rfl)) rfl
theorem wIM_OBJ : Cond.instanceMethod objectInit ∈ okW := ok_of (tb_1 (List.mem_of_getElem? (i := 25) rfl)) rfl
theorem wCD_OBJ : Cond.code objectInit ⟨#[0xb1]⟩ 1 none ∈ okW := ok_of (tb_1 (List.mem_of_getElem? (i := 26) rfl)) rfl
theorem wC_X9_9 : Cond.classLink RX9 9 RX8 ∈ okW := ok_of (tb_1 (List.mem_of_getElem? (i := 27) rfl)) rfl
theorem wIS_X8 : Cond.instantiable RX8 17 ∈ okW := ok_of (tb_1 (List.mem_of_getElem? (i := 28) rfl)) rfl
theorem wM_X9_11 : Cond.methodLink RX9 11 yX8_init ∈ okW := ok_of (tb_1 (List.mem_of_getElem? (i := 29) rfl)) rfl
theorem wIM_X8_init : Cond.instanceMethod yX8_init ∈ okW := ok_of (tb_1 (List.mem_of_getElem? (i := 30) rfl)) rfl
theorem wCD_X8_init : Cond.code yX8_init cX8_init 2 none ∈ okW := ok_of (tb_1 (List.mem_of_getElem? (i := 31) rfl)) rfl
theorem wM_X8_3 : Cond.methodLink RX8 3 objectInit ∈ okW := ok_of (tb_1 (List.mem_of_getElem? (i := 32) rfl)) rfl
theorem wC_X8_9 : Cond.classLink RX8 9 RX0 ∈ okW := ok_of (tb_1 (List.mem_of_getElem? (i := 33) rfl)) rfl
theorem wC_X8_17 : Cond.classLink RX8 17 RX7 ∈ okW := ok_of (tb_1 (List.mem_of_getElem? (i := 35) rfl)) rfl
theorem wIS_X0 : Cond.instantiable RX0 18 ∈ okW := ok_of (tb_1 (List.mem_of_getElem? (i := 37) rfl)) rfl
theorem wIM_X0_init : Cond.instanceMethod yX0_init ∈ okW := ok_of (tb_1 (List.mem_of_getElem? (i := 39) rfl)) rfl
theorem wCD_X0_init : Cond.code yX0_init cX0_init 1 none ∈ okW := ok_of (tb_1 (List.mem_of_getElem? (i := 40) rfl)) rfl
theorem wM_X0_3 : Cond.methodLink RX0 3 objectInit ∈ okW := ok_of (tb_1 (List.mem_of_getElem? (i := 41) rfl)) rfl
theorem wC_X0_39 : Cond.classLink RX0 39 "[[I" ∈ okW := ok_of (tb_1 (List.mem_of_getElem? (i := 42) rfl)) rfl
theorem wF_X0_50 : Cond.fieldLink RX0 50 (TX0 0).1 (TX0 0).2.1 (TX0 0).2.2.1 ∈ okW := ok_of (tb_1 (List.mem_of_getElem? (i := 44) rfl)) rfl
theorem wF_X3_43 : Cond.fieldLink RX3 43 (TX0 0).1 (TX0 0).2.1 (TX0 0).2.2.1 ∈ okW := ok_of (tb_1 (List.mem_of_getElem? (i := 45) rfl)) rfl
theorem wF_X6_18 : Cond.fieldLink RX6 18 (TX0 0).1 (TX0 0).2.1 (TX0 0).2.2.1 ∈ okW := ok_of (tb_1 (List.mem_of_getElem? (i := 46) rfl)) rfl
theorem wF_X1_66 : Cond.fieldLink RX1 66 (TX0 0).1 (TX0 0).2.1 (TX0 0).2.2.1 ∈ okW := ok_of (tb_1 (List.mem_of_getElem? (i := 47) rfl)) rfl
theorem wF_X9_187 : Cond.fieldLink RX9 187 (TX0 0).1 (TX0 0).2.1 (TX0 0).2.2.1 ∈ okW := ok_of (tb_1 (List.mem_of_getElem? (i := 48) rfl)) rfl
theorem wF_X0_9 : Cond.fieldLink RX0 9 (TX0 1).1 (TX0 1).2.1 (TX0 1).2.2.1 ∈ okW := ok_of (tb_1 (List.mem_of_getElem? (i := 49) rfl)) rfl
theorem wF_X3_63 : Cond.fieldLink RX3 63 (TX0 1).1 (TX0 1).2.1 (TX0 1).2.2.1 ∈ okW := ok_of (tb_1 (List.mem_of_getElem? (i := 50) rfl)) rfl
theorem wF_X9_93 : Cond.fieldLink RX9 93 (TX0 1).1 (TX0 1).2.1 (TX0 1).2.2.1 ∈ okW := ok_of (tb_1 (List.mem_of_getElem? (i := 51) rfl)) rfl
theorem wF_X6_85 : Cond.fieldLink RX6 85 (TX0 1).1 (TX0 1).2.1 (TX0 1).2.2.1 ∈ okW := ok_of (tb_1 (List.mem_of_getElem? (i := 52) rfl)) rfl
theorem wF_X1_108 : Cond.fieldLink RX1 108 (TX0 1).1 (TX0 1).2.1 (TX0 1).2.2.1 ∈ okW := ok_of (tb_1 (List.mem_of_getElem? (i := 53) rfl)) rfl
theorem wF_X0_15 : Cond.fieldLink RX0 15 (TX0 2).1 (TX0 2).2.1 (TX0 2).2.2.1 ∈ okW := ok_of (tb_1 (List.mem_of_getElem? (i := 54) rfl)) rfl
theorem wF_X3_66 : Cond.fieldLink RX3 66 (TX0 2).1 (TX0 2).2.1 (TX0 2).2.2.1 ∈ okW := ok_of (tb_1 (List.mem_of_getElem? (i := 55) rfl)) rfl
theorem wF_X9_96 : Cond.fieldLink RX9 96 (TX0 2).1 (TX0 2).2.1 (TX0 2).2.2.1 ∈ okW := ok_of (tb_1 (List.mem_of_getElem? (i := 56) rfl)) rfl
theorem wF_X6_88 : Cond.fieldLink RX6 88 (TX0 2).1 (TX0 2).2.1 (TX0 2).2.2.1 ∈ okW := ok_of (tb_1 (List.mem_of_getElem? (i := 57) rfl)) rfl
theorem wF_X0_18 : Cond.fieldLink RX0 18 (TX0 3).1 (TX0 3).2.1 (TX0 3).2.2.1 ∈ okW := ok_of (tb_1 (List.mem_of_getElem? (i := 58) rfl)) rfl
theorem wF_X6_34 : Cond.fieldLink RX6 34 (TX0 3).1 (TX0 3).2.1 (TX0 3).2.2.1 ∈ okW := ok_of (tb_1 (List.mem_of_getElem? (i := 59) rfl)) rfl
theorem wF_X9_99 : Cond.fieldLink RX9 99 (TX0 3).1 (TX0 3).2.1 (TX0 3).2.2.1 ∈ okW := ok_of (tb_1 (List.mem_of_getElem? (i := 60) rfl)) rfl
theorem wF_X0_21 : Cond.fieldLink RX0 21 (TX0 4).1 (TX0 4).2.1 (TX0 4).2.2.1 ∈ okW := ok_of (tb_1 (List.mem_of_getElem? (i := 61) rfl)) rfl
theorem wF_X3_69 : Cond.fieldLink RX3 69 (TX0 4).1 (TX0 4).2.1 (TX0 4).2.2.1 ∈ okW := ok_of (tb_1 (List.mem_of_getElem? (i := 62) rfl)) rfl
theorem wF_X9_102 : Cond.fieldLink RX9 102 (TX0 4).1 (TX0 4).2.1 (TX0 4).2.2.1 ∈ okW := ok_of (tb_1 (List.mem_of_getElem? (i := 63) rfl)) rfl
theorem wF_X6_91 : Cond.fieldLink RX6 91 (TX0 4).1 (TX0 4).2.1 (TX0 4).2.2.1 ∈ okW := ok_of (tb_1 (List.mem_of_getElem? (i := 64) rfl)) rfl
theorem wF_X1_119 : Cond.fieldLink RX1 119 (TX0 4).1 (TX0 4).2.1 (TX0 4).2.2.1 ∈ okW := ok_of (tb_1 (List.mem_of_getElem? (i := 65) rfl)) rfl
theorem wF_X0_24 : Cond.fieldLink RX0 24 (TX0 5).1 (TX0 5).2.1 (TX0 5).2.2.1 ∈ okW := ok_of (tb_1 (List.mem_of_getElem? (i := 66) rfl)) rfl
theorem wF_X3_62 : Cond.fieldLink RX3 62 (TX0 5).1 (TX0 5).2.1 (TX0 5).2.2.1 ∈ okW := ok_of (tb_1 (List.mem_of_getElem? (i := 67) rfl)) rfl
theorem wF_X9_181 : Cond.fieldLink RX9 181 (TX0 5).1 (TX0 5).2.1 (TX0 5).2.2.1 ∈ okW := ok_of (tb_1 (List.mem_of_getElem? (i := 68) rfl)) rfl
theorem wF_X0_27 : Cond.fieldLink RX0 27 (TX0 6).1 (TX0 6).2.1 (TX0 6).2.2.1 ∈ okW := ok_of (tb_1 (List.mem_of_getElem? (i := 69) rfl)) rfl
theorem wF_X9_174 : Cond.fieldLink RX9 174 (TX0 6).1 (TX0 6).2.1 (TX0 6).2.2.1 ∈ okW := ok_of (tb_1 (List.mem_of_getElem? (i := 70) rfl)) rfl
theorem wF_X0_30 : Cond.fieldLink RX0 30 (TX0 7).1 (TX0 7).2.1 (TX0 7).2.2.1 ∈ okW := ok_of (tb_1 (List.mem_of_getElem? (i := 71) rfl)) rfl
theorem wF_X9_177 : Cond.fieldLink RX9 177 (TX0 7).1 (TX0 7).2.1 (TX0 7).2.2.1 ∈ okW := ok_of (tb_1 (List.mem_of_getElem? (i := 72) rfl)) rfl
theorem wF_X0_60 : Cond.fieldLink RX0 60 (TX0 8).1 (TX0 8).2.1 (TX0 8).2.2.1 ∈ okW := ok_of (tb_1 (List.mem_of_getElem? (i := 73) rfl)) rfl
theorem wF_X9_86 : Cond.fieldLink RX9 86 (TX0 8).1 (TX0 8).2.1 (TX0 8).2.2.1 ∈ okW := ok_of (tb_1 (List.mem_of_getElem? (i := 74) rfl)) rfl
theorem wF_X0_63 : Cond.fieldLink RX0 63 (TX0 9).1 (TX0 9).2.1 (TX0 9).2.2.1 ∈ okW := ok_of (tb_1 (List.mem_of_getElem? (i := 75) rfl)) rfl
theorem wF_X9_197 : Cond.fieldLink RX9 197 (TX0 9).1 (TX0 9).2.1 (TX0 9).2.2.1 ∈ okW := ok_of (tb_1 (List.mem_of_getElem? (i := 76) rfl)) rfl
theorem wF_X0_33 : Cond.fieldLink RX0 33 (TX0 10).1 (TX0 10).2.1 (TX0 10).2.2.1 ∈ okW := ok_of (tb_1 (List.mem_of_getElem? (i := 77) rfl)) rfl
theorem wF_X1_52 : Cond.fieldLink RX1 52 (TX0 10).1 (TX0 10).2.1 (TX0 10).2.2.1 ∈ okW := ok_of (tb_1 (List.mem_of_getElem? (i := 78) rfl)) rfl
theorem wF_X9_398 : Cond.fieldLink RX9 398 (TX0 10).1 (TX0 10).2.1 (TX0 10).2.2.1 ∈ okW := ok_of (tb_1 (List.mem_of_getElem? (i := 79) rfl)) rfl
theorem wF_X0_36 : Cond.fieldLink RX0 36 (TX0 11).1 (TX0 11).2.1 (TX0 11).2.2.1 ∈ okW := ok_of (tb_1 (List.mem_of_getElem? (i := 80) rfl)) rfl
theorem wF_X1_101 : Cond.fieldLink RX1 101 (TX0 11).1 (TX0 11).2.1 (TX0 11).2.2.1 ∈ okW := ok_of (tb_1 (List.mem_of_getElem? (i := 81) rfl)) rfl
theorem wF_X9_408 : Cond.fieldLink RX9 408 (TX0 11).1 (TX0 11).2.1 (TX0 11).2.2.1 ∈ okW := ok_of (tb_1 (List.mem_of_getElem? (i := 82) rfl)) rfl
theorem wF_X0_41 : Cond.fieldLink RX0 41 (TX0 12).1 (TX0 12).2.1 (TX0 12).2.2.1 ∈ okW := ok_of (tb_1 (List.mem_of_getElem? (i := 83) rfl)) rfl
theorem wF_X1_55 : Cond.fieldLink RX1 55 (TX0 12).1 (TX0 12).2.1 (TX0 12).2.2.1 ∈ okW := ok_of (tb_1 (List.mem_of_getElem? (i := 84) rfl)) rfl
theorem wF_X9_401 : Cond.fieldLink RX9 401 (TX0 12).1 (TX0 12).2.1 (TX0 12).2.2.1 ∈ okW := ok_of (tb_1 (List.mem_of_getElem? (i := 85) rfl)) rfl
theorem wF_X0_44 : Cond.fieldLink RX0 44 (TX0 13).1 (TX0 13).2.1 (TX0 13).2.2.1 ∈ okW := ok_of (tb_1 (List.mem_of_getElem? (i := 86) rfl)) rfl
theorem wF_X1_59 : Cond.fieldLink RX1 59 (TX0 13).1 (TX0 13).2.1 (TX0 13).2.2.1 ∈ okW := ok_of (tb_1 (List.mem_of_getElem? (i := 87) rfl)) rfl
theorem wF_X9_405 : Cond.fieldLink RX9 405 (TX0 13).1 (TX0 13).2.1 (TX0 13).2.2.1 ∈ okW := ok_of (tb_1 (List.mem_of_getElem? (i := 88) rfl)) rfl
theorem wF_X1_47 : Cond.fieldLink RX1 47 (TX0 14).1 (TX0 14).2.1 (TX0 14).2.2.1 ∈ okW := ok_of (tb_1 (List.mem_of_getElem? (i := 89) rfl)) rfl
theorem wF_X0_66 : Cond.fieldLink RX0 66 (TX0 14).1 (TX0 14).2.1 (TX0 14).2.2.1 ∈ okW := ok_of (tb_1 (List.mem_of_getElem? (i := 90) rfl)) rfl
theorem wF_X9_200 : Cond.fieldLink RX9 200 (TX0 14).1 (TX0 14).2.1 (TX0 14).2.2.1 ∈ okW := ok_of (tb_1 (List.mem_of_getElem? (i := 91) rfl)) rfl
theorem wF_X0_69 : Cond.fieldLink RX0 69 (TX0 15).1 (TX0 15).2.1 (TX0 15).2.2.1 ∈ okW := ok_of (tb_1 (List.mem_of_getElem? (i := 92) rfl)) rfl
theorem wF_X9_266 : Cond.fieldLink RX9 266 (TX0 15).1 (TX0 15).2.1 (TX0 15).2.2.1 ∈ okW := ok_of (tb_1 (List.mem_of_getElem? (i := 93) rfl)) rfl
theorem wF_X0_72 : Cond.fieldLink RX0 72 (TX0 16).1 (TX0 16).2.1 (TX0 16).2.2.1 ∈ okW := ok_of (tb_1 (List.mem_of_getElem? (i := 94) rfl)) rfl
theorem wF_X9_269 : Cond.fieldLink RX9 269 (TX0 16).1 (TX0 16).2.1 (TX0 16).2.2.1 ∈ okW := ok_of (tb_1 (List.mem_of_getElem? (i := 95) rfl)) rfl
theorem wF_X0_47 : Cond.fieldLink RX0 47 (TX0 17).1 (TX0 17).2.1 (TX0 17).2.2.1 ∈ okW := ok_of (tb_1 (List.mem_of_getElem? (i := 96) rfl)) rfl
theorem wF_X9_272 : Cond.fieldLink RX9 272 (TX0 17).1 (TX0 17).2.1 (TX0 17).2.2.1 ∈ okW := ok_of (tb_1 (List.mem_of_getElem? (i := 97) rfl)) rfl
theorem wLY_0_0 : u_lay RX0 TX0 0 ∈ okW := ok_of (tb_1 (List.mem_of_getElem? (i := 98) rfl)) rfl
theorem wLY_0_1 : u_lay RX0 TX0 1 ∈ okW := ok_of (tb_1 (List.mem_of_getElem? (i := 100) rfl)) rfl
theorem wLY_0_2 : u_lay RX0 TX0 2 ∈ okW := ok_of (tb_1 (List.mem_of_getElem? (i := 102) rfl)) rfl
theorem wLY_0_3 : u_lay RX0 TX0 3 ∈ okW := ok_of (tb_1 (List.mem_of_getElem? (i := 104) rfl)) rfl
theorem wLY_0_4 : u_lay RX0 TX0 4 ∈ okW := ok_of (tb_1 (List.mem_of_getElem? (i := 106) rfl)) rfl
theorem wLY_0_5 : u_lay RX0 TX0 5 ∈ okW := ok_of (tb_1 (List.mem_of_getElem? (i := 108) rfl)) rfl
theorem wLY_0_6 : u_lay RX0 TX0 6 ∈ okW := ok_of (tb_1 (List.mem_of_getElem? (i := 110) rfl)) rfl
theorem wLY_0_7 : u_lay RX0 TX0 7 ∈ okW := ok_of (tb_1 (List.mem_of_getElem? (i := 112) rfl)) rfl
theorem wLY_0_8 : u_lay RX0 TX0 8 ∈ okW := ok_of (tb_1 (List.mem_of_getElem? (i := 114) rfl)) rfl
theorem wLY_0_9 : u_lay RX0 TX0 9 ∈ okW := ok_of (tb_1 (List.mem_of_getElem? (i := 116) rfl)) rfl
theorem wLY_0_10 : u_lay RX0 TX0 10 ∈ okW := ok_of (tb_1 (List.mem_of_getElem? (i := 118) rfl)) rfl
theorem wLY_0_11 : u_lay RX0 TX0 11 ∈ okW := ok_of (tb_1 (List.mem_of_getElem? (i := 120) rfl)) rfl
theorem wLY_0_12 : u_lay RX0 TX0 12 ∈ okW := ok_of (tb_1 (List.mem_of_getElem? (i := 122) rfl)) rfl
theorem wLY_0_13 : u_lay RX0 TX0 13 ∈ okW := ok_of (tb_1 (List.mem_of_getElem? (i := 124) rfl)) rfl
theorem wLY_0_14 : u_lay RX0 TX0 14 ∈ okW := ok_of (tb_1 (List.mem_of_getElem? (i := 126) rfl)) rfl
theorem wLY_0_15 : u_lay RX0 TX0 15 ∈ okW := ok_of (tb_1 (List.mem_of_getElem? (i := 128) rfl)) rfl
theorem wLY_0_16 : u_lay RX0 TX0 16 ∈ okW := ok_of (tb_1 (List.mem_of_getElem? (i := 130) rfl)) rfl
theorem wLY_0_17 : u_lay RX0 TX0 17 ∈ okW := ok_of (tb_1 (List.mem_of_getElem? (i := 132) rfl)) rfl
theorem wAC_int : Cond.arrayClass .int ∈ okW := ok_of (tb_1 (List.mem_of_getElem? (i := 135) rfl)) rfl
theorem wIS_X7 : Cond.instantiable RX7 10 ∈ okW := ok_of (tb_1 (List.mem_of_getElem? (i := 136) rfl)) rfl
theorem wIM_X7_init : Cond.instanceMethod yX7_init ∈ okW := ok_of (tb_1 (List.mem_of_getElem? (i := 138) rfl)) rfl
theorem wCD_X7_init : Cond.code yX7_init cX7_init 1 none ∈ okW := ok_of (tb_1 (List.mem_of_getElem? (i := 139) rfl)) rfl
theorem wM_X7_3 : Cond.methodLink RX7 3 objectInit ∈ okW := ok_of (tb_1 (List.mem_of_getElem? (i := 140) rfl)) rfl
theorem wF_X7_36 : Cond.fieldLink RX7 36 (TX7 0).1 (TX7 0).2.1 (TX7 0).2.2.1 ∈ okW := ok_of (tb_1 (List.mem_of_getElem? (i := 141) rfl)) rfl
theorem wF_X6_43 : Cond.fieldLink RX6 43 (TX7 0).1 (TX7 0).2.1 (TX7 0).2.2.1 ∈ okW := ok_of (tb_1 (List.mem_of_getElem? (i := 142) rfl)) rfl
theorem wF_X9_144 : Cond.fieldLink RX9 144 (TX7 0).1 (TX7 0).2.1 (TX7 0).2.2.1 ∈ okW := ok_of (tb_1 (List.mem_of_getElem? (i := 143) rfl)) rfl
theorem wF_X4_84 : Cond.fieldLink RX4 84 (TX7 0).1 (TX7 0).2.1 (TX7 0).2.2.1 ∈ okW := ok_of (tb_1 (List.mem_of_getElem? (i := 144) rfl)) rfl
theorem wF_X7_9 : Cond.fieldLink RX7 9 (TX7 1).1 (TX7 1).2.1 (TX7 1).2.2.1 ∈ okW := ok_of (tb_1 (List.mem_of_getElem? (i := 145) rfl)) rfl
theorem wF_X6_48 : Cond.fieldLink RX6 48 (TX7 1).1 (TX7 1).2.1 (TX7 1).2.2.1 ∈ okW := ok_of (tb_1 (List.mem_of_getElem? (i := 146) rfl)) rfl
theorem wF_X4_87 : Cond.fieldLink RX4 87 (TX7 1).1 (TX7 1).2.1 (TX7 1).2.2.1 ∈ okW := ok_of (tb_1 (List.mem_of_getElem? (i := 147) rfl)) rfl
theorem wF_X9_389 : Cond.fieldLink RX9 389 (TX7 1).1 (TX7 1).2.1 (TX7 1).2.2.1 ∈ okW := ok_of (tb_1 (List.mem_of_getElem? (i := 148) rfl)) rfl
theorem wF_X7_15 : Cond.fieldLink RX7 15 (TX7 2).1 (TX7 2).2.1 (TX7 2).2.2.1 ∈ okW := ok_of (tb_1 (List.mem_of_getElem? (i := 149) rfl)) rfl
theorem wF_X6_51 : Cond.fieldLink RX6 51 (TX7 2).1 (TX7 2).2.1 (TX7 2).2.2.1 ∈ okW := ok_of (tb_1 (List.mem_of_getElem? (i := 150) rfl)) rfl
theorem wF_X4_90 : Cond.fieldLink RX4 90 (TX7 2).1 (TX7 2).2.1 (TX7 2).2.2.1 ∈ okW := ok_of (tb_1 (List.mem_of_getElem? (i := 151) rfl)) rfl
theorem wF_X9_383 : Cond.fieldLink RX9 383 (TX7 2).1 (TX7 2).2.1 (TX7 2).2.2.1 ∈ okW := ok_of (tb_1 (List.mem_of_getElem? (i := 152) rfl)) rfl
theorem wF_X7_18 : Cond.fieldLink RX7 18 (TX7 3).1 (TX7 3).2.1 (TX7 3).2.2.1 ∈ okW := ok_of (tb_1 (List.mem_of_getElem? (i := 153) rfl)) rfl
theorem wF_X4_122 : Cond.fieldLink RX4 122 (TX7 3).1 (TX7 3).2.1 (TX7 3).2.2.1 ∈ okW := ok_of (tb_1 (List.mem_of_getElem? (i := 154) rfl)) rfl
theorem wF_X9_392 : Cond.fieldLink RX9 392 (TX7 3).1 (TX7 3).2.1 (TX7 3).2.2.1 ∈ okW := ok_of (tb_1 (List.mem_of_getElem? (i := 155) rfl)) rfl
theorem wF_X7_21 : Cond.fieldLink RX7 21 (TX7 4).1 (TX7 4).2.1 (TX7 4).2.2.1 ∈ okW := ok_of (tb_1 (List.mem_of_getElem? (i := 156) rfl)) rfl
theorem wF_X4_125 : Cond.fieldLink RX4 125 (TX7 4).1 (TX7 4).2.1 (TX7 4).2.2.1 ∈ okW := ok_of (tb_1 (List.mem_of_getElem? (i := 157) rfl)) rfl
theorem wF_X9_386 : Cond.fieldLink RX9 386 (TX7 4).1 (TX7 4).2.1 (TX7 4).2.2.1 ∈ okW := ok_of (tb_1 (List.mem_of_getElem? (i := 158) rfl)) rfl
theorem wF_X7_24 : Cond.fieldLink RX7 24 (TX7 5).1 (TX7 5).2.1 (TX7 5).2.2.1 ∈ okW := ok_of (tb_1 (List.mem_of_getElem? (i := 159) rfl)) rfl
theorem wF_X6_68 : Cond.fieldLink RX6 68 (TX7 5).1 (TX7 5).2.1 (TX7 5).2.2.1 ∈ okW := ok_of (tb_1 (List.mem_of_getElem? (i := 160) rfl)) rfl
theorem wF_X4_93 : Cond.fieldLink RX4 93 (TX7 5).1 (TX7 5).2.1 (TX7 5).2.2.1 ∈ okW := ok_of (tb_1 (List.mem_of_getElem? (i := 161) rfl)) rfl
theorem wF_X7_27 : Cond.fieldLink RX7 27 (TX7 6).1 (TX7 6).2.1 (TX7 6).2.2.1 ∈ okW := ok_of (tb_1 (List.mem_of_getElem? (i := 162) rfl)) rfl
theorem wF_X6_58 : Cond.fieldLink RX6 58 (TX7 6).1 (TX7 6).2.1 (TX7 6).2.2.1 ∈ okW := ok_of (tb_1 (List.mem_of_getElem? (i := 163) rfl)) rfl
theorem wF_X4_110 : Cond.fieldLink RX4 110 (TX7 6).1 (TX7 6).2.1 (TX7 6).2.2.1 ∈ okW := ok_of (tb_1 (List.mem_of_getElem? (i := 164) rfl)) rfl
theorem wF_X9_374 : Cond.fieldLink RX9 374 (TX7 6).1 (TX7 6).2.1 (TX7 6).2.2.1 ∈ okW := ok_of (tb_1 (List.mem_of_getElem? (i := 165) rfl)) rfl
theorem wF_X7_30 : Cond.fieldLink RX7 30 (TX7 7).1 (TX7 7).2.1 (TX7 7).2.2.1 ∈ okW := ok_of (tb_1 (List.mem_of_getElem? (i := 166) rfl)) rfl
theorem wF_X6_61 : Cond.fieldLink RX6 61 (TX7 7).1 (TX7 7).2.1 (TX7 7).2.2.1 ∈ okW := ok_of (tb_1 (List.mem_of_getElem? (i := 167) rfl)) rfl
theorem wF_X4_116 : Cond.fieldLink RX4 116 (TX7 7).1 (TX7 7).2.1 (TX7 7).2.2.1 ∈ okW := ok_of (tb_1 (List.mem_of_getElem? (i := 168) rfl)) rfl
theorem wF_X9_377 : Cond.fieldLink RX9 377 (TX7 7).1 (TX7 7).2.1 (TX7 7).2.2.1 ∈ okW := ok_of (tb_1 (List.mem_of_getElem? (i := 169) rfl)) rfl
theorem wF_X7_33 : Cond.fieldLink RX7 33 (TX7 8).1 (TX7 8).2.1 (TX7 8).2.2.1 ∈ okW := ok_of (tb_1 (List.mem_of_getElem? (i := 170) rfl)) rfl
theorem wF_X6_94 : Cond.fieldLink RX6 94 (TX7 8).1 (TX7 8).2.1 (TX7 8).2.2.1 ∈ okW := ok_of (tb_1 (List.mem_of_getElem? (i := 171) rfl)) rfl
theorem wF_X7_40 : Cond.fieldLink RX7 40 (TX7 9).1 (TX7 9).2.1 (TX7 9).2.2.1 ∈ okW := ok_of (tb_1 (List.mem_of_getElem? (i := 172) rfl)) rfl
theorem wF_X4_96 : Cond.fieldLink RX4 96 (TX7 9).1 (TX7 9).2.1 (TX7 9).2.2.1 ∈ okW := ok_of (tb_1 (List.mem_of_getElem? (i := 173) rfl)) rfl
theorem wLY_7_0 : u_lay RX7 TX7 0 ∈ okW := ok_of (tb_1 (List.mem_of_getElem? (i := 174) rfl)) rfl
theorem wLY_7_1 : u_lay RX7 TX7 1 ∈ okW := ok_of (tb_1 (List.mem_of_getElem? (i := 176) rfl)) rfl
theorem wLY_7_2 : u_lay RX7 TX7 2 ∈ okW := ok_of (tb_1 (List.mem_of_getElem? (i := 178) rfl)) rfl
theorem wLY_7_3 : u_lay RX7 TX7 3 ∈ okW := ok_of (tb_1 (List.mem_of_getElem? (i := 180) rfl)) rfl
theorem wLY_7_4 : u_lay RX7 TX7 4 ∈ okW := ok_of (tb_1 (List.mem_of_getElem? (i := 182) rfl)) rfl
theorem wLY_7_5 : u_lay RX7 TX7 5 ∈ okW := ok_of (tb_1 (List.mem_of_getElem? (i := 184) rfl)) rfl
theorem wLY_7_6 : u_lay RX7 TX7 6 ∈ okW := ok_of (tb_1 (List.mem_of_getElem? (i := 186) rfl)) rfl
theorem wLY_7_7 : u_lay RX7 TX7 7 ∈ okW := ok_of (tb_1 (List.mem_of_getElem? (i := 188) rfl)) rfl
theorem wLY_7_8 : u_lay RX7 TX7 8 ∈ okW := ok_of (tb_1 (List.mem_of_getElem? (i := 190) rfl)) rfl
theorem wLY_7_9 : u_lay RX7 TX7 9 ∈ okW := ok_of (tb_1 (List.mem_of_getElem? (i := 192) rfl)) rfl
theorem wF_X8_11 : Cond.fieldLink RX8 11 (TX8 0).1 (TX8 0).2.1 (TX8 0).2.2.1 ∈ okW := ok_of (tb_1 (List.mem_of_getElem? (i := 195) rfl)) rfl
theorem wF_X9_68 : Cond.fieldLink RX9 68 (TX8 0).1 (TX8 0).2.1 (TX8 0).2.2.1 ∈ okW := ok_of (tb_1 (List.mem_of_getElem? (i := 196) rfl)) rfl
theorem wF_X9_64 : Cond.fieldLink RX9 64 (TX8 1).1 (TX8 1).2.1 (TX8 1).2.2.1 ∈ okW := ok_of (tb_1 (List.mem_of_getElem? (i := 197) rfl)) rfl
theorem wF_X8_57 : Cond.fieldLink RX8 57 (TX8 1).1 (TX8 1).2.1 (TX8 1).2.2.1 ∈ okW := ok_of (tb_1 (List.mem_of_getElem? (i := 198) rfl)) rfl
theorem wF_X8_19 : Cond.fieldLink RX8 19 (TX8 2).1 (TX8 2).2.1 (TX8 2).2.2.1 ∈ okW := ok_of (tb_1 (List.mem_of_getElem? (i := 199) rfl)) rfl
theorem wF_X9_158 : Cond.fieldLink RX9 158 (TX8 2).1 (TX8 2).2.1 (TX8 2).2.2.1 ∈ okW := ok_of (tb_1 (List.mem_of_getElem? (i := 200) rfl)) rfl
theorem wF_X8_23 : Cond.fieldLink RX8 23 (TX8 3).1 (TX8 3).2.1 (TX8 3).2.2.1 ∈ okW := ok_of (tb_1 (List.mem_of_getElem? (i := 201) rfl)) rfl
theorem wF_X9_220 : Cond.fieldLink RX9 220 (TX8 3).1 (TX8 3).2.1 (TX8 3).2.2.1 ∈ okW := ok_of (tb_1 (List.mem_of_getElem? (i := 202) rfl)) rfl
theorem wF_X8_54 : Cond.fieldLink RX8 54 (TX8 4).1 (TX8 4).2.1 (TX8 4).2.2.1 ∈ okW := ok_of (tb_1 (List.mem_of_getElem? (i := 203) rfl)) rfl
theorem wF_X9_147 : Cond.fieldLink RX9 147 (TX8 4).1 (TX8 4).2.1 (TX8 4).2.2.1 ∈ okW := ok_of (tb_1 (List.mem_of_getElem? (i := 204) rfl)) rfl
theorem wF_X8_26 : Cond.fieldLink RX8 26 (TX8 5).1 (TX8 5).2.1 (TX8 5).2.2.1 ∈ okW := ok_of (tb_1 (List.mem_of_getElem? (i := 205) rfl)) rfl
theorem wF_X9_184 : Cond.fieldLink RX9 184 (TX8 5).1 (TX8 5).2.1 (TX8 5).2.2.1 ∈ okW := ok_of (tb_1 (List.mem_of_getElem? (i := 206) rfl)) rfl
theorem wF_X8_67 : Cond.fieldLink RX8 67 (TX8 6).1 (TX8 6).2.1 (TX8 6).2.2.1 ∈ okW := ok_of (tb_1 (List.mem_of_getElem? (i := 207) rfl)) rfl
theorem wF_X9_111 : Cond.fieldLink RX9 111 (TX8 6).1 (TX8 6).2.1 (TX8 6).2.2.1 ∈ okW := ok_of (tb_1 (List.mem_of_getElem? (i := 208) rfl)) rfl
theorem wF_X8_30 : Cond.fieldLink RX8 30 (TX8 7).1 (TX8 7).2.1 (TX8 7).2.2.1 ∈ okW := ok_of (tb_1 (List.mem_of_getElem? (i := 209) rfl)) rfl
theorem wF_X9_114 : Cond.fieldLink RX9 114 (TX8 7).1 (TX8 7).2.1 (TX8 7).2.2.1 ∈ okW := ok_of (tb_1 (List.mem_of_getElem? (i := 210) rfl)) rfl
theorem wF_X8_33 : Cond.fieldLink RX8 33 (TX8 8).1 (TX8 8).2.1 (TX8 8).2.2.1 ∈ okW := ok_of (tb_1 (List.mem_of_getElem? (i := 211) rfl)) rfl
theorem wF_X9_296 : Cond.fieldLink RX9 296 (TX8 8).1 (TX8 8).2.1 (TX8 8).2.2.1 ∈ okW := ok_of (tb_1 (List.mem_of_getElem? (i := 212) rfl)) rfl
theorem wF_X8_37 : Cond.fieldLink RX8 37 (TX8 9).1 (TX8 9).2.1 (TX8 9).2.2.1 ∈ okW := ok_of (tb_1 (List.mem_of_getElem? (i := 213) rfl)) rfl
theorem wF_X9_299 : Cond.fieldLink RX9 299 (TX8 9).1 (TX8 9).2.1 (TX8 9).2.2.1 ∈ okW := ok_of (tb_1 (List.mem_of_getElem? (i := 214) rfl)) rfl
theorem wF_X8_76 : Cond.fieldLink RX8 76 (TX8 10).1 (TX8 10).2.1 (TX8 10).2.2.1 ∈ okW := ok_of (tb_1 (List.mem_of_getElem? (i := 215) rfl)) rfl
theorem wF_X9_293 : Cond.fieldLink RX9 293 (TX8 10).1 (TX8 10).2.1 (TX8 10).2.2.1 ∈ okW := ok_of (tb_1 (List.mem_of_getElem? (i := 216) rfl)) rfl
theorem wF_X8_40 : Cond.fieldLink RX8 40 (TX8 11).1 (TX8 11).2.1 (TX8 11).2.2.1 ∈ okW := ok_of (tb_1 (List.mem_of_getElem? (i := 217) rfl)) rfl
theorem wF_X9_320 : Cond.fieldLink RX9 320 (TX8 11).1 (TX8 11).2.1 (TX8 11).2.2.1 ∈ okW := ok_of (tb_1 (List.mem_of_getElem? (i := 218) rfl)) rfl
theorem wF_X8_43 : Cond.fieldLink RX8 43 (TX8 12).1 (TX8 12).2.1 (TX8 12).2.2.1 ∈ okW := ok_of (tb_1 (List.mem_of_getElem? (i := 219) rfl)) rfl
theorem wF_X5_55 : Cond.fieldLink RX5 55 (TX8 12).1 (TX8 12).2.1 (TX8 12).2.2.1 ∈ okW := ok_of (tb_1 (List.mem_of_getElem? (i := 220) rfl)) rfl
theorem wF_X9_323 : Cond.fieldLink RX9 323 (TX8 12).1 (TX8 12).2.1 (TX8 12).2.2.1 ∈ okW := ok_of (tb_1 (List.mem_of_getElem? (i := 221) rfl)) rfl
theorem wF_X5_38 : Cond.fieldLink RX5 38 (TX8 13).1 (TX8 13).2.1 (TX8 13).2.2.1 ∈ okW := ok_of (tb_1 (List.mem_of_getElem? (i := 222) rfl)) rfl
theorem wF_X8_79 : Cond.fieldLink RX8 79 (TX8 13).1 (TX8 13).2.1 (TX8 13).2.2.1 ∈ okW := ok_of (tb_1 (List.mem_of_getElem? (i := 223) rfl)) rfl
theorem wF_X9_317 : Cond.fieldLink RX9 317 (TX8 13).1 (TX8 13).2.1 (TX8 13).2.2.1 ∈ okW := ok_of (tb_1 (List.mem_of_getElem? (i := 224) rfl)) rfl
theorem wF_X8_46 : Cond.fieldLink RX8 46 (TX8 14).1 (TX8 14).2.1 (TX8 14).2.2.1 ∈ okW := ok_of (tb_1 (List.mem_of_getElem? (i := 225) rfl)) rfl
theorem wF_X5_52 : Cond.fieldLink RX5 52 (TX8 14).1 (TX8 14).2.1 (TX8 14).2.2.1 ∈ okW := ok_of (tb_1 (List.mem_of_getElem? (i := 226) rfl)) rfl
theorem wF_X9_329 : Cond.fieldLink RX9 329 (TX8 14).1 (TX8 14).2.1 (TX8 14).2.2.1 ∈ okW := ok_of (tb_1 (List.mem_of_getElem? (i := 227) rfl)) rfl
theorem wF_X8_49 : Cond.fieldLink RX8 49 (TX8 15).1 (TX8 15).2.1 (TX8 15).2.2.1 ∈ okW := ok_of (tb_1 (List.mem_of_getElem? (i := 228) rfl)) rfl
theorem wF_X5_62 : Cond.fieldLink RX5 62 (TX8 15).1 (TX8 15).2.1 (TX8 15).2.2.1 ∈ okW := ok_of (tb_1 (List.mem_of_getElem? (i := 229) rfl)) rfl
theorem wF_X9_332 : Cond.fieldLink RX9 332 (TX8 15).1 (TX8 15).2.1 (TX8 15).2.2.1 ∈ okW := ok_of (tb_1 (List.mem_of_getElem? (i := 230) rfl)) rfl
theorem wF_X5_49 : Cond.fieldLink RX5 49 (TX8 16).1 (TX8 16).2.1 (TX8 16).2.2.1 ∈ okW := ok_of (tb_1 (List.mem_of_getElem? (i := 231) rfl)) rfl
theorem wF_X8_82 : Cond.fieldLink RX8 82 (TX8 16).1 (TX8 16).2.1 (TX8 16).2.2.1 ∈ okW := ok_of (tb_1 (List.mem_of_getElem? (i := 232) rfl)) rfl
theorem wF_X9_326 : Cond.fieldLink RX9 326 (TX8 16).1 (TX8 16).2.1 (TX8 16).2.2.1 ∈ okW := ok_of (tb_1 (List.mem_of_getElem? (i := 233) rfl)) rfl
theorem wLY_8_0 : u_lay RX8 TX8 0 ∈ okW := ok_of (tb_1 (List.mem_of_getElem? (i := 234) rfl)) rfl
theorem wLY_8_1 : u_lay RX8 TX8 1 ∈ okW := ok_of (tb_1 (List.mem_of_getElem? (i := 236) rfl)) rfl
theorem wLY_8_2 : u_lay RX8 TX8 2 ∈ okW := ok_of (tb_1 (List.mem_of_getElem? (i := 238) rfl)) rfl
theorem wLY_8_3 : u_lay RX8 TX8 3 ∈ okW := ok_of (tb_2 (List.mem_of_getElem? (i := 0) rfl)) rfl
theorem wLY_8_4 : u_lay RX8 TX8 4 ∈ okW := ok_of (tb_2 (List.mem_of_getElem? (i := 2) rfl)) rfl
theorem wLY_8_5 : u_lay RX8 TX8 5 ∈ okW := ok_of (tb_2 (List.mem_of_getElem? (i := 4) rfl)) rfl
theorem wLY_8_6 : u_lay RX8 TX8 6 ∈ okW := ok_of (tb_2 (List.mem_of_getElem? (i := 6) rfl)) rfl
theorem wLY_8_7 : u_lay RX8 TX8 7 ∈ okW := ok_of (tb_2 (List.mem_of_getElem? (i := 8) rfl)) rfl
theorem wLY_8_8 : u_lay RX8 TX8 8 ∈ okW := ok_of (tb_2 (List.mem_of_getElem? (i := 10) rfl)) rfl
theorem wLY_8_9 : u_lay RX8 TX8 9 ∈ okW := ok_of (tb_2 (List.mem_of_getElem? (i := 12) rfl)) rfl
theorem wLY_8_10 : u_lay RX8 TX8 10 ∈ okW := ok_of (tb_2 (List.mem_of_getElem? (i := 14) rfl)) rfl
theorem wLY_8_11 : u_lay RX8 TX8 11 ∈ okW := ok_of (tb_2 (List.mem_of_getElem? (i := 16) rfl)) rfl
theorem wLY_8_12 : u_lay RX8 TX8 12 ∈ okW := ok_of (tb_2 (List.mem_of_getElem? (i := 18) rfl)) rfl
theorem wLY_8_13 : u_lay RX8 TX8 13 ∈ okW := ok_of (tb_2 (List.mem_of_getElem? (i := 20) rfl)) rfl
theorem wLY_8_14 : u_lay RX8 TX8 14 ∈ okW := ok_of (tb_2 (List.mem_of_getElem? (i := 22) rfl)) rfl
theorem wLY_8_15 : u_lay RX8 TX8 15 ∈ okW := ok_of (tb_2 (List.mem_of_getElem? (i := 24) rfl)) rfl
theorem wLY_8_16 : u_lay RX8 TX8 16 ∈ okW := ok_of (tb_2 (List.mem_of_getElem? (i := 26) rfl)) rfl
theorem wC_X9_20 : Cond.classLink RX9 20 RX4 ∈ okW := ok_of (tb_2 (List.mem_of_getElem? (i := 29) rfl)) rfl
theorem wIS_X4 : Cond.instantiable RX4 9 ∈ okW := ok_of (tb_2 (List.mem_of_getElem? (i := 30) rfl)) rfl
theorem wIM_X4_init : Cond.instanceMethod yX4_init ∈ okW := ok_of (tb_2 (List.mem_of_getElem? (i := 32) rfl)) rfl
theorem wCD_X4_init : Cond.code yX4_init cX4_init 1 none ∈ okW := ok_of (tb_2 (List.mem_of_getElem? (i := 33) rfl)) rfl
theorem wM_X4_3 : Cond.methodLink RX4 3 objectInit ∈ okW := ok_of (tb_2 (List.mem_of_getElem? (i := 34) rfl)) rfl
theorem wC_X4_9 : Cond.classLink RX4 9 RX7 ∈ okW := ok_of (tb_2 (List.mem_of_getElem? (i := 35) rfl)) rfl
theorem wF_X4_12 : Cond.fieldLink RX4 12 (TX4 0).1 (TX4 0).2.1 (TX4 0).2.2.1 ∈ okW := ok_of (tb_2 (List.mem_of_getElem? (i := 37) rfl)) rfl
theorem wF_X9_134 : Cond.fieldLink RX9 134 (TX4 0).1 (TX4 0).2.1 (TX4 0).2.2.1 ∈ okW := ok_of (tb_2 (List.mem_of_getElem? (i := 38) rfl)) rfl
theorem wF_X4_32 : Cond.fieldLink RX4 32 (TX4 1).1 (TX4 1).2.1 (TX4 1).2.2.1 ∈ okW := ok_of (tb_2 (List.mem_of_getElem? (i := 39) rfl)) rfl
theorem wF_X9_132 : Cond.fieldLink RX9 132 (TX4 1).1 (TX4 1).2.1 (TX4 1).2.2.1 ∈ okW := ok_of (tb_2 (List.mem_of_getElem? (i := 40) rfl)) rfl
theorem wF_X4_36 : Cond.fieldLink RX4 36 (TX4 2).1 (TX4 2).2.1 (TX4 2).2.2.1 ∈ okW := ok_of (tb_2 (List.mem_of_getElem? (i := 41) rfl)) rfl
theorem wF_X9_133 : Cond.fieldLink RX9 133 (TX4 2).1 (TX4 2).2.1 (TX4 2).2.2.1 ∈ okW := ok_of (tb_2 (List.mem_of_getElem? (i := 42) rfl)) rfl
theorem wF_X4_18 : Cond.fieldLink RX4 18 (TX4 3).1 (TX4 3).2.1 (TX4 3).2.2.1 ∈ okW := ok_of (tb_2 (List.mem_of_getElem? (i := 43) rfl)) rfl
theorem wF_X4_22 : Cond.fieldLink RX4 22 (TX4 4).1 (TX4 4).2.1 (TX4 4).2.2.1 ∈ okW := ok_of (tb_2 (List.mem_of_getElem? (i := 44) rfl)) rfl
theorem wF_X4_25 : Cond.fieldLink RX4 25 (TX4 5).1 (TX4 5).2.1 (TX4 5).2.2.1 ∈ okW := ok_of (tb_2 (List.mem_of_getElem? (i := 45) rfl)) rfl
theorem wF_X4_45 : Cond.fieldLink RX4 45 (TX4 6).1 (TX4 6).2.1 (TX4 6).2.2.1 ∈ okW := ok_of (tb_2 (List.mem_of_getElem? (i := 46) rfl)) rfl
theorem wF_X4_42 : Cond.fieldLink RX4 42 (TX4 7).1 (TX4 7).2.1 (TX4 7).2.2.1 ∈ okW := ok_of (tb_2 (List.mem_of_getElem? (i := 47) rfl)) rfl
theorem wF_X4_28 : Cond.fieldLink RX4 28 (TX4 8).1 (TX4 8).2.1 (TX4 8).2.2.1 ∈ okW := ok_of (tb_2 (List.mem_of_getElem? (i := 48) rfl)) rfl
theorem wLY_4_0 : u_lay RX4 TX4 0 ∈ okW := ok_of (tb_2 (List.mem_of_getElem? (i := 49) rfl)) rfl
theorem wLY_4_1 : u_lay RX4 TX4 1 ∈ okW := ok_of (tb_2 (List.mem_of_getElem? (i := 51) rfl)) rfl
theorem wLY_4_2 : u_lay RX4 TX4 2 ∈ okW := ok_of (tb_2 (List.mem_of_getElem? (i := 53) rfl)) rfl
theorem wLY_4_3 : u_lay RX4 TX4 3 ∈ okW := ok_of (tb_2 (List.mem_of_getElem? (i := 55) rfl)) rfl
theorem wLY_4_4 : u_lay RX4 TX4 4 ∈ okW := ok_of (tb_2 (List.mem_of_getElem? (i := 57) rfl)) rfl
theorem wLY_4_5 : u_lay RX4 TX4 5 ∈ okW := ok_of (tb_2 (List.mem_of_getElem? (i := 59) rfl)) rfl
theorem wLY_4_6 : u_lay RX4 TX4 6 ∈ okW := ok_of (tb_2 (List.mem_of_getElem? (i := 61) rfl)) rfl
theorem wLY_4_7 : u_lay RX4 TX4 7 ∈ okW := ok_of (tb_2 (List.mem_of_getElem? (i := 63) rfl)) rfl
theorem wLY_4_8 : u_lay RX4 TX4 8 ∈ okW := ok_of (tb_2 (List.mem_of_getElem? (i := 65) rfl)) rfl
theorem wC_X9_27 : Cond.classLink RX9 27 RX6 ∈ okW := ok_of (tb_2 (List.mem_of_getElem? (i := 68) rfl)) rfl
theorem wIS_X6 : Cond.instantiable RX6 2 ∈ okW := ok_of (tb_2 (List.mem_of_getElem? (i := 69) rfl)) rfl
theorem wIM_X6_init : Cond.instanceMethod yX6_init ∈ okW := ok_of (tb_2 (List.mem_of_getElem? (i := 71) rfl)) rfl
theorem wCD_X6_init : Cond.code yX6_init cX6_init 1 none ∈ okW := ok_of (tb_2 (List.mem_of_getElem? (i := 72) rfl)) rfl
theorem wM_X6_3 : Cond.methodLink RX6 3 objectInit ∈ okW := ok_of (tb_2 (List.mem_of_getElem? (i := 73) rfl)) rfl
theorem wF_X6_9 : Cond.fieldLink RX6 9 (TX6 0).1 (TX6 0).2.1 (TX6 0).2.2.1 ∈ okW := ok_of (tb_2 (List.mem_of_getElem? (i := 74) rfl)) rfl
theorem wF_X6_15 : Cond.fieldLink RX6 15 (TX6 1).1 (TX6 1).2.1 (TX6 1).2.2.1 ∈ okW := ok_of (tb_2 (List.mem_of_getElem? (i := 75) rfl)) rfl
theorem wLY_6_0 : u_lay RX6 TX6 0 ∈ okW := ok_of (tb_2 (List.mem_of_getElem? (i := 76) rfl)) rfl
theorem wLY_6_1 : u_lay RX6 TX6 1 ∈ okW := ok_of (tb_2 (List.mem_of_getElem? (i := 78) rfl)) rfl
theorem wC_X9_34 : Cond.classLink RX9 34 RX3 ∈ okW := ok_of (tb_2 (List.mem_of_getElem? (i := 81) rfl)) rfl
theorem wIS_X3 : Cond.instantiable RX3 12 ∈ okW := ok_of (tb_2 (List.mem_of_getElem? (i := 82) rfl)) rfl
theorem wIM_X3_init : Cond.instanceMethod yX3_init ∈ okW := ok_of (tb_2 (List.mem_of_getElem? (i := 84) rfl)) rfl
theorem wCD_X3_init : Cond.code yX3_init cX3_init 1 none ∈ okW := ok_of (tb_2 (List.mem_of_getElem? (i := 85) rfl)) rfl
theorem wM_X3_5 : Cond.methodLink RX3 5 objectInit ∈ okW := ok_of (tb_2 (List.mem_of_getElem? (i := 86) rfl)) rfl
theorem wC_X3_36 : Cond.classLink RX3 36 RX2 ∈ okW := ok_of (tb_2 (List.mem_of_getElem? (i := 87) rfl)) rfl
theorem wIS_X2 : Cond.instantiable RX2 2 ∈ okW := ok_of (tb_2 (List.mem_of_getElem? (i := 88) rfl)) rfl
theorem wIM_X2_init : Cond.instanceMethod yX2_init ∈ okW := ok_of (tb_2 (List.mem_of_getElem? (i := 90) rfl)) rfl
theorem wCD_X2_init : Cond.code yX2_init cX2_init 1 none ∈ okW := ok_of (tb_2 (List.mem_of_getElem? (i := 91) rfl)) rfl
theorem wM_X2_1 : Cond.methodLink RX2 1 objectInit ∈ okW := ok_of (tb_2 (List.mem_of_getElem? (i := 92) rfl)) rfl
theorem wF_X2_9 : Cond.fieldLink RX2 9 (TX2 0).1 (TX2 0).2.1 (TX2 0).2.2.1 ∈ okW := ok_of (tb_2 (List.mem_of_getElem? (i := 93) rfl)) rfl
theorem wF_X2_13 : Cond.fieldLink RX2 13 (TX2 1).1 (TX2 1).2.1 (TX2 1).2.2.1 ∈ okW := ok_of (tb_2 (List.mem_of_getElem? (i := 94) rfl)) rfl
theorem wF_X1_129 : Cond.fieldLink RX1 129 (TX2 1).1 (TX2 1).2.1 (TX2 1).2.2.1 ∈ okW := ok_of (tb_2 (List.mem_of_getElem? (i := 95) rfl)) rfl
theorem wLY_2_0 : u_lay RX2 TX2 0 ∈ okW := ok_of (tb_2 (List.mem_of_getElem? (i := 96) rfl)) rfl
theorem wLY_2_1 : u_lay RX2 TX2 1 ∈ okW := ok_of (tb_2 (List.mem_of_getElem? (i := 98) rfl)) rfl
theorem wF_X3_11 : Cond.fieldLink RX3 11 (TX3 0).1 (TX3 0).2.1 (TX3 0).2.2.1 ∈ okW := ok_of (tb_2 (List.mem_of_getElem? (i := 101) rfl)) rfl
theorem wF_X9_239 : Cond.fieldLink RX9 239 (TX3 0).1 (TX3 0).2.1 (TX3 0).2.2.1 ∈ okW := ok_of (tb_2 (List.mem_of_getElem? (i := 102) rfl)) rfl
theorem wF_X3_15 : Cond.fieldLink RX3 15 (TX3 1).1 (TX3 1).2.1 (TX3 1).2.2.1 ∈ okW := ok_of (tb_2 (List.mem_of_getElem? (i := 103) rfl)) rfl
theorem wF_X3_18 : Cond.fieldLink RX3 18 (TX3 2).1 (TX3 2).2.1 (TX3 2).2.2.1 ∈ okW := ok_of (tb_2 (List.mem_of_getElem? (i := 104) rfl)) rfl
theorem wF_X3_21 : Cond.fieldLink RX3 21 (TX3 3).1 (TX3 3).2.1 (TX3 3).2.2.1 ∈ okW := ok_of (tb_2 (List.mem_of_getElem? (i := 105) rfl)) rfl
theorem wF_X3_24 : Cond.fieldLink RX3 24 (TX3 4).1 (TX3 4).2.1 (TX3 4).2.2.1 ∈ okW := ok_of (tb_2 (List.mem_of_getElem? (i := 106) rfl)) rfl
theorem wF_X3_27 : Cond.fieldLink RX3 27 (TX3 5).1 (TX3 5).2.1 (TX3 5).2.2.1 ∈ okW := ok_of (tb_2 (List.mem_of_getElem? (i := 107) rfl)) rfl
theorem wF_X3_30 : Cond.fieldLink RX3 30 (TX3 6).1 (TX3 6).2.1 (TX3 6).2.2.1 ∈ okW := ok_of (tb_2 (List.mem_of_getElem? (i := 108) rfl)) rfl
theorem wF_X3_33 : Cond.fieldLink RX3 33 (TX3 7).1 (TX3 7).2.1 (TX3 7).2.2.1 ∈ okW := ok_of (tb_2 (List.mem_of_getElem? (i := 109) rfl)) rfl
theorem wF_X3_39 : Cond.fieldLink RX3 39 (TX3 8).1 (TX3 8).2.1 (TX3 8).2.2.1 ∈ okW := ok_of (tb_2 (List.mem_of_getElem? (i := 110) rfl)) rfl
theorem wF_X3_55 : Cond.fieldLink RX3 55 (TX3 9).1 (TX3 9).2.1 (TX3 9).2.2.1 ∈ okW := ok_of (tb_2 (List.mem_of_getElem? (i := 111) rfl)) rfl
theorem wF_X3_56 : Cond.fieldLink RX3 56 (TX3 10).1 (TX3 10).2.1 (TX3 10).2.2.1 ∈ okW := ok_of (tb_2 (List.mem_of_getElem? (i := 112) rfl)) rfl
theorem wF_X3_59 : Cond.fieldLink RX3 59 (TX3 11).1 (TX3 11).2.1 (TX3 11).2.2.1 ∈ okW := ok_of (tb_2 (List.mem_of_getElem? (i := 113) rfl)) rfl
theorem wLY_3_0 : u_lay RX3 TX3 0 ∈ okW := ok_of (tb_2 (List.mem_of_getElem? (i := 114) rfl)) rfl
theorem wLY_3_1 : u_lay RX3 TX3 1 ∈ okW := ok_of (tb_2 (List.mem_of_getElem? (i := 116) rfl)) rfl
theorem wLY_3_2 : u_lay RX3 TX3 2 ∈ okW := ok_of (tb_2 (List.mem_of_getElem? (i := 118) rfl)) rfl
theorem wLY_3_3 : u_lay RX3 TX3 3 ∈ okW := ok_of (tb_2 (List.mem_of_getElem? (i := 120) rfl)) rfl
theorem wLY_3_4 : u_lay RX3 TX3 4 ∈ okW := ok_of (tb_2 (List.mem_of_getElem? (i := 122) rfl)) rfl
theorem wLY_3_5 : u_lay RX3 TX3 5 ∈ okW := ok_of (tb_2 (List.mem_of_getElem? (i := 124) rfl)) rfl
theorem wLY_3_6 : u_lay RX3 TX3 6 ∈ okW := ok_of (tb_2 (List.mem_of_getElem? (i := 126) rfl)) rfl
theorem wLY_3_7 : u_lay RX3 TX3 7 ∈ okW := ok_of (tb_2 (List.mem_of_getElem? (i := 128) rfl)) rfl
theorem wLY_3_8 : u_lay RX3 TX3 8 ∈ okW := ok_of (tb_2 (List.mem_of_getElem? (i := 130) rfl)) rfl
theorem wLY_3_9 : u_lay RX3 TX3 9 ∈ okW := ok_of (tb_2 (List.mem_of_getElem? (i := 132) rfl)) rfl
theorem wLY_3_10 : u_lay RX3 TX3 10 ∈ okW := ok_of (tb_2 (List.mem_of_getElem? (i := 134) rfl)) rfl
theorem wLY_3_11 : u_lay RX3 TX3 11 ∈ okW := ok_of (tb_2 (List.mem_of_getElem? (i := 136) rfl)) rfl
theorem wC_X9_41 : Cond.classLink RX9 41 RX1 ∈ okW := ok_of (tb_2 (List.mem_of_getElem? (i := 139) rfl)) rfl
theorem wIS_X1 : Cond.instantiable RX1 8 ∈ okW := ok_of (tb_2 (List.mem_of_getElem? (i := 140) rfl)) rfl
theorem wIM_X1_init : Cond.instanceMethod yX1_init ∈ okW := ok_of (tb_2 (List.mem_of_getElem? (i := 142) rfl)) rfl
theorem wCD_X1_init : Cond.code yX1_init cX1_init 1 none ∈ okW := ok_of (tb_2 (List.mem_of_getElem? (i := 143) rfl)) rfl
theorem wM_X1_3 : Cond.methodLink RX1 3 objectInit ∈ okW := ok_of (tb_2 (List.mem_of_getElem? (i := 144) rfl)) rfl
theorem wC_X1_27 : Cond.classLink RX1 27 RX2 ∈ okW := ok_of (tb_2 (List.mem_of_getElem? (i := 145) rfl)) rfl
theorem wF_X1_11 : Cond.fieldLink RX1 11 (TX1 0).1 (TX1 0).2.1 (TX1 0).2.2.1 ∈ okW := ok_of (tb_2 (List.mem_of_getElem? (i := 147) rfl)) rfl
theorem wF_X1_15 : Cond.fieldLink RX1 15 (TX1 1).1 (TX1 1).2.1 (TX1 1).2.2.1 ∈ okW := ok_of (tb_2 (List.mem_of_getElem? (i := 148) rfl)) rfl
theorem wF_X1_18 : Cond.fieldLink RX1 18 (TX1 2).1 (TX1 2).2.1 (TX1 2).2.2.1 ∈ okW := ok_of (tb_2 (List.mem_of_getElem? (i := 149) rfl)) rfl
theorem wF_X1_21 : Cond.fieldLink RX1 21 (TX1 3).1 (TX1 3).2.1 (TX1 3).2.2.1 ∈ okW := ok_of (tb_2 (List.mem_of_getElem? (i := 150) rfl)) rfl
theorem wF_X1_69 : Cond.fieldLink RX1 69 (TX1 4).1 (TX1 4).2.1 (TX1 4).2.2.1 ∈ okW := ok_of (tb_2 (List.mem_of_getElem? (i := 151) rfl)) rfl
theorem wF_X1_43 : Cond.fieldLink RX1 43 (TX1 5).1 (TX1 5).2.1 (TX1 5).2.2.1 ∈ okW := ok_of (tb_2 (List.mem_of_getElem? (i := 152) rfl)) rfl
theorem wF_X1_24 : Cond.fieldLink RX1 24 (TX1 6).1 (TX1 6).2.1 (TX1 6).2.2.1 ∈ okW := ok_of (tb_2 (List.mem_of_getElem? (i := 153) rfl)) rfl
theorem wF_X1_30 : Cond.fieldLink RX1 30 (TX1 7).1 (TX1 7).2.1 (TX1 7).2.2.1 ∈ okW := ok_of (tb_2 (List.mem_of_getElem? (i := 154) rfl)) rfl
theorem wLY_1_0 : u_lay RX1 TX1 0 ∈ okW := ok_of (tb_2 (List.mem_of_getElem? (i := 155) rfl)) rfl
theorem wLY_1_1 : u_lay RX1 TX1 1 ∈ okW := ok_of (tb_2 (List.mem_of_getElem? (i := 157) rfl)) rfl
theorem wLY_1_2 : u_lay RX1 TX1 2 ∈ okW := ok_of (tb_2 (List.mem_of_getElem? (i := 159) rfl)) rfl
theorem wLY_1_3 : u_lay RX1 TX1 3 ∈ okW := ok_of (tb_2 (List.mem_of_getElem? (i := 161) rfl)) rfl
theorem wLY_1_4 : u_lay RX1 TX1 4 ∈ okW := ok_of (tb_2 (List.mem_of_getElem? (i := 163) rfl)) rfl
theorem wLY_1_5 : u_lay RX1 TX1 5 ∈ okW := ok_of (tb_2 (List.mem_of_getElem? (i := 165) rfl)) rfl
theorem wLY_1_6 : u_lay RX1 TX1 6 ∈ okW := ok_of (tb_2 (List.mem_of_getElem? (i := 167) rfl)) rfl
theorem wLY_1_7 : u_lay RX1 TX1 7 ∈ okW := ok_of (tb_2 (List.mem_of_getElem? (i := 169) rfl)) rfl
theorem wC_X9_48 : Cond.classLink RX9 48 RX5 ∈ okW := ok_of (tb_2 (List.mem_of_getElem? (i := 172) rfl)) rfl
theorem wIS_X5 : Cond.instantiable RX5 5 ∈ okW := ok_of (tb_2 (List.mem_of_getElem? (i := 173) rfl)) rfl
theorem wIM_X5_init : Cond.instanceMethod yX5_init ∈ okW := ok_of (tb_2 (List.mem_of_getElem? (i := 175) rfl)) rfl
theorem wCD_X5_init : Cond.code yX5_init cX5_init 1 none ∈ okW := ok_of (tb_2 (List.mem_of_getElem? (i := 176) rfl)) rfl
theorem wM_X5_3 : Cond.methodLink RX5 3 objectInit ∈ okW := ok_of (tb_2 (List.mem_of_getElem? (i := 177) rfl)) rfl
theorem wF_X5_9 : Cond.fieldLink RX5 9 (TX5 0).1 (TX5 0).2.1 (TX5 0).2.2.1 ∈ okW := ok_of (tb_2 (List.mem_of_getElem? (i := 178) rfl)) rfl
theorem wF_X9_338 : Cond.fieldLink RX9 338 (TX5 0).1 (TX5 0).2.1 (TX5 0).2.2.1 ∈ okW := ok_of (tb_2 (List.mem_of_getElem? (i := 179) rfl)) rfl
theorem wF_X5_15 : Cond.fieldLink RX5 15 (TX5 1).1 (TX5 1).2.1 (TX5 1).2.2.1 ∈ okW := ok_of (tb_2 (List.mem_of_getElem? (i := 180) rfl)) rfl
theorem wF_X5_18 : Cond.fieldLink RX5 18 (TX5 2).1 (TX5 2).2.1 (TX5 2).2.2.1 ∈ okW := ok_of (tb_2 (List.mem_of_getElem? (i := 181) rfl)) rfl
theorem wF_X5_27 : Cond.fieldLink RX5 27 (TX5 3).1 (TX5 3).2.1 (TX5 3).2.2.1 ∈ okW := ok_of (tb_2 (List.mem_of_getElem? (i := 182) rfl)) rfl
theorem wF_X5_31 : Cond.fieldLink RX5 31 (TX5 4).1 (TX5 4).2.1 (TX5 4).2.2.1 ∈ okW := ok_of (tb_2 (List.mem_of_getElem? (i := 183) rfl)) rfl
theorem wLY_5_0 : u_lay RX5 TX5 0 ∈ okW := ok_of (tb_2 (List.mem_of_getElem? (i := 184) rfl)) rfl
theorem wLY_5_1 : u_lay RX5 TX5 1 ∈ okW := ok_of (tb_2 (List.mem_of_getElem? (i := 186) rfl)) rfl
theorem wLY_5_2 : u_lay RX5 TX5 2 ∈ okW := ok_of (tb_2 (List.mem_of_getElem? (i := 188) rfl)) rfl
theorem wLY_5_3 : u_lay RX5 TX5 3 ∈ okW := ok_of (tb_2 (List.mem_of_getElem? (i := 190) rfl)) rfl
theorem wLY_5_4 : u_lay RX5 TX5 4 ∈ okW := ok_of (tb_2 (List.mem_of_getElem? (i := 192) rfl)) rfl
theorem wF_X9_12 : Cond.fieldLink RX9 12 (TX9 0).1 (TX9 0).2.1 (TX9 0).2.2.1 ∈ okW := ok_of (tb_2 (List.mem_of_getElem? (i := 195) rfl)) rfl
theorem wF_X9_348 : Cond.fieldLink RX9 348 (TX9 1).1 (TX9 1).2.1 (TX9 1).2.2.1 ∈ okW := ok_of (tb_2 (List.mem_of_getElem? (i := 196) rfl)) rfl
theorem wF_X9_16 : Cond.fieldLink RX9 16 (TX9 2).1 (TX9 2).2.1 (TX9 2).2.2.1 ∈ okW := ok_of (tb_2 (List.mem_of_getElem? (i := 197) rfl)) rfl
theorem wF_X9_105 : Cond.fieldLink RX9 105 (TX9 3).1 (TX9 3).2.1 (TX9 3).2.2.1 ∈ okW := ok_of (tb_2 (List.mem_of_getElem? (i := 198) rfl)) rfl
theorem wF_X9_23 : Cond.fieldLink RX9 23 (TX9 4).1 (TX9 4).2.1 (TX9 4).2.2.1 ∈ okW := ok_of (tb_2 (List.mem_of_getElem? (i := 199) rfl)) rfl
theorem wF_X9_30 : Cond.fieldLink RX9 30 (TX9 5).1 (TX9 5).2.1 (TX9 5).2.2.1 ∈ okW := ok_of (tb_2 (List.mem_of_getElem? (i := 200) rfl)) rfl
theorem wF_X9_37 : Cond.fieldLink RX9 37 (TX9 6).1 (TX9 6).2.1 (TX9 6).2.2.1 ∈ okW := ok_of (tb_2 (List.mem_of_getElem? (i := 201) rfl)) rfl
theorem wF_X9_44 : Cond.fieldLink RX9 44 (TX9 7).1 (TX9 7).2.1 (TX9 7).2.2.1 ∈ okW := ok_of (tb_2 (List.mem_of_getElem? (i := 202) rfl)) rfl
theorem wF_X9_51 : Cond.fieldLink RX9 51 (TX9 8).1 (TX9 8).2.1 (TX9 8).2.2.1 ∈ okW := ok_of (tb_2 (List.mem_of_getElem? (i := 203) rfl)) rfl
theorem wF_X9_55 : Cond.fieldLink RX9 55 (TX9 9).1 (TX9 9).2.1 (TX9 9).2.2.1 ∈ okW := ok_of (tb_2 (List.mem_of_getElem? (i := 204) rfl)) rfl
theorem wF_X9_58 : Cond.fieldLink RX9 58 (TX9 10).1 (TX9 10).2.1 (TX9 10).2.2.1 ∈ okW := ok_of (tb_2 (List.mem_of_getElem? (i := 205) rfl)) rfl
theorem wF_X9_61 : Cond.fieldLink RX9 61 (TX9 11).1 (TX9 11).2.1 (TX9 11).2.2.1 ∈ okW := ok_of (tb_2 (List.mem_of_getElem? (i := 206) rfl)) rfl
theorem wLY_9_0 : u_lay RX9 TX9 0 ∈ okW := ok_of (tb_2 (List.mem_of_getElem? (i := 207) rfl)) rfl
theorem wLY_9_1 : u_lay RX9 TX9 1 ∈ okW := ok_of (tb_2 (List.mem_of_getElem? (i := 209) rfl)) rfl
theorem wLY_9_2 : u_lay RX9 TX9 2 ∈ okW := ok_of (tb_2 (List.mem_of_getElem? (i := 211) rfl)) rfl
theorem wLY_9_3 : u_lay RX9 TX9 3 ∈ okW := ok_of (tb_2 (List.mem_of_getElem? (i := 213) rfl)) rfl
theorem wLY_9_4 : u_lay RX9 TX9 4 ∈ okW := ok_of (tb_2 (List.mem_of_getElem? (i := 215) rfl)) rfl
theorem wLY_9_5 : u_lay RX9 TX9 5 ∈ okW := ok_of (tb_2 (List.mem_of_getElem? (i := 217) rfl)) rfl
theorem wLY_9_6 : u_lay RX9 TX9 6 ∈ okW := ok_of (tb_2 (List.mem_of_getElem? (i := 219) rfl)) rfl
theorem wLY_9_7 : u_lay RX9 TX9 7 ∈ okW := ok_of (tb_2 (List.mem_of_getElem? (i := 221) rfl)) rfl
theorem wLY_9_8 : u_lay RX9 TX9 8 ∈ okW := ok_of (tb_2 (List.mem_of_getElem? (i := 223) rfl)) rfl
theorem wLY_9_9 : u_lay RX9 TX9 9 ∈ okW := ok_of (tb_2 (List.mem_of_getElem? (i := 225) rfl)) rfl
theorem wLY_9_10 : u_lay RX9 TX9 10 ∈ okW := ok_of (tb_2 (List.mem_of_getElem? (i := 227) rfl)) rfl
theorem wLY_9_11 : u_lay RX9 TX9 11 ∈ okW := ok_of (tb_2 (List.mem_of_getElem? (i := 229) rfl)) rfl
theorem wM_L_13 : Cond.methodLink RL 13 yX9_bar ∈ okW := ok_of (tb_2 (List.mem_of_getElem? (i := 232) rfl)) rfl
theorem wIM_X9_bar : Cond.instanceMethod yX9_bar ∈ okW := ok_of (tb_2 (List.mem_of_getElem? (i := 233) rfl)) rfl
theorem wSE_X9_bar : Cond.selects yX9_bar.cls yX9_bar yX9_bar ∈ okW := ok_of (tb_2 (List.mem_of_getElem? (i := 234) rfl)) rfl
theorem wCD_X9_bar : Cond.code yX9_bar cX9_bar 2 (some .int) ∈ okW := ok_of (tb_2 (List.mem_of_getElem? (i := 235) rfl)) rfl
theorem wM_X9_72 : Cond.methodLink RX9 72 yX0_begin ∈ okW := ok_of (tb_2 (List.mem_of_getElem? (i := 236) rfl)) rfl
theorem wIM_X0_begin : Cond.instanceMethod yX0_begin ∈ okW := ok_of (tb_2 (List.mem_of_getElem? (i := 237) rfl)) rfl
theorem wSE_X0_begin : Cond.selects yX0_begin.cls yX0_begin yX0_begin ∈ okW := ok_of (tb_2 (List.mem_of_getElem? (i := 238) rfl)) rfl
theorem wCD_X0_begin : Cond.code yX0_begin cX0_begin 2 none ∈ okW := ok_of (tb_2 (List.mem_of_getElem? (i := 239) rfl)) rfl
theorem wM_X0_54 : Cond.methodLink RX0 54 yJ7_fill_53178 ∈ okW := ok_of (tb_3 (List.mem_of_getElem? (i := 0) rfl)) rfl
theorem wST_J7_fill_53178 : Cond.static yJ7_fill_53178 ∈ okW := ok_of (tb_3 (List.mem_of_getElem? (i := 1) rfl)) rfl
theorem wCD_J7_fill_53178 : Cond.code yJ7_fill_53178 cJ7_fill_53178 4 none ∈ okW := ok_of (tb_3 (List.mem_of_getElem? (i := 2) rfl)) rfl
theorem wM_L_18 : Cond.methodLink RL 18 yX9_slice ∈ okW := ok_of (tb_3 (List.mem_of_getElem? (i := 3) rfl)) rfl
theorem wIM_X9_slice : Cond.instanceMethod yX9_slice ∈ okW := ok_of (tb_3 (List.mem_of_getElem? (i := 4) rfl)) rfl
theorem wSE_X9_slice : Cond.selects yX9_slice.cls yX9_slice yX9_slice ∈ okW := ok_of (tb_3 (List.mem_of_getElem? (i := 5) rfl)) rfl
theorem wCD_X9_slice : Cond.code yX9_slice cX9_slice 7 (some .boolean) ∈ okW := ok_of (tb_3 (List.mem_of_getElem? (i := 6) rfl)) rfl
theorem wM_X9_78 : Cond.methodLink RX9 78 yX9_barAt ∈ okW := ok_of (tb_3 (List.mem_of_getElem? (i := 7) rfl)) rfl
theorem wIM_X9_barAt : Cond.instanceMethod yX9_barAt ∈ okW := ok_of (tb_3 (List.mem_of_getElem? (i := 9) rfl)) rfl
theorem wCD_X9_barAt : Cond.code yX9_barAt cX9_barAt 2 (some (.object "RingBars$Bar")) ∈ okW := ok_of (tb_3 (List.mem_of_getElem? (i := 10) rfl)) rfl
theorem wM_X9_89 : Cond.methodLink RX9 89 yX9_within ∈ okW := ok_of (tb_3 (List.mem_of_getElem? (i := 11) rfl)) rfl
theorem wST_X9_within : Cond.static yX9_within ∈ okW := ok_of (tb_3 (List.mem_of_getElem? (i := 12) rfl)) rfl
theorem wCD_X9_within : Cond.code yX9_within cX9_within 3 (some .boolean) ∈ okW := ok_of (tb_3 (List.mem_of_getElem? (i := 13) rfl)) rfl
theorem wM_X9_82 : Cond.methodLink RX9 82 yX0_has ∈ okW := ok_of (tb_3 (List.mem_of_getElem? (i := 14) rfl)) rfl
theorem wIM_X0_has : Cond.instanceMethod yX0_has ∈ okW := ok_of (tb_3 (List.mem_of_getElem? (i := 15) rfl)) rfl
theorem wSE_X0_has : Cond.selects yX0_has.cls yX0_has yX0_has ∈ okW := ok_of (tb_3 (List.mem_of_getElem? (i := 16) rfl)) rfl
theorem wCD_X0_has : Cond.code yX0_has cX0_has 2 (some .boolean) ∈ okW := ok_of (tb_3 (List.mem_of_getElem? (i := 17) rfl)) rfl
theorem wM_L_23 : Cond.methodLink RL 23 yX9_wax ∈ okW := ok_of (tb_3 (List.mem_of_getElem? (i := 18) rfl)) rfl
theorem wIM_X9_wax : Cond.instanceMethod yX9_wax ∈ okW := ok_of (tb_3 (List.mem_of_getElem? (i := 19) rfl)) rfl
theorem wSE_X9_wax : Cond.selects yX9_wax.cls yX9_wax yX9_wax ∈ okW := ok_of (tb_3 (List.mem_of_getElem? (i := 20) rfl)) rfl
theorem wCD_X9_wax : Cond.code yX9_wax cX9_wax 5 (some .boolean) ∈ okW := ok_of (tb_3 (List.mem_of_getElem? (i := 21) rfl)) rfl
theorem wM_L_28 : Cond.methodLink RL 28 yX9_of ∈ okW := ok_of (tb_3 (List.mem_of_getElem? (i := 22) rfl)) rfl
theorem wIM_X9_of : Cond.instanceMethod yX9_of ∈ okW := ok_of (tb_3 (List.mem_of_getElem? (i := 23) rfl)) rfl
theorem wSE_X9_of : Cond.selects yX9_of.cls yX9_of yX9_of ∈ okW := ok_of (tb_3 (List.mem_of_getElem? (i := 24) rfl)) rfl
theorem wCD_X9_of : Cond.code yX9_of cX9_of 5 (some .int) ∈ okW := ok_of (tb_3 (List.mem_of_getElem? (i := 25) rfl)) rfl
theorem wM_L_33 : Cond.methodLink RL 33 yX9_feed ∈ okW := ok_of (tb_3 (List.mem_of_getElem? (i := 26) rfl)) rfl
theorem wIM_X9_feed : Cond.instanceMethod yX9_feed ∈ okW := ok_of (tb_3 (List.mem_of_getElem? (i := 27) rfl)) rfl
theorem wSE_X9_feed : Cond.selects yX9_feed.cls yX9_feed yX9_feed ∈ okW := ok_of (tb_3 (List.mem_of_getElem? (i := 28) rfl)) rfl
theorem wCD_X9_feed : Cond.code yX9_feed cX9_feed 6 (some .int) ∈ okW := ok_of (tb_3 (List.mem_of_getElem? (i := 29) rfl)) rfl
theorem wM_X9_108 : Cond.methodLink RX9 108 yX9_addBytes ∈ okW := ok_of (tb_3 (List.mem_of_getElem? (i := 30) rfl)) rfl
theorem wIM_X9_addBytes : Cond.instanceMethod yX9_addBytes ∈ okW := ok_of (tb_3 (List.mem_of_getElem? (i := 32) rfl)) rfl
theorem wCD_X9_addBytes : Cond.code yX9_addBytes cX9_addBytes 3 none ∈ okW := ok_of (tb_3 (List.mem_of_getElem? (i := 33) rfl)) rfl
theorem wM_L_38 : Cond.methodLink RL 38 yX9_end ∈ okW := ok_of (tb_3 (List.mem_of_getElem? (i := 34) rfl)) rfl
theorem wIM_X9_end : Cond.instanceMethod yX9_end ∈ okW := ok_of (tb_3 (List.mem_of_getElem? (i := 35) rfl)) rfl
theorem wSE_X9_end : Cond.selects yX9_end.cls yX9_end yX9_end ∈ okW := ok_of (tb_3 (List.mem_of_getElem? (i := 36) rfl)) rfl
theorem wCD_X9_end : Cond.code yX9_end cX9_end 2 (some .boolean) ∈ okW := ok_of (tb_3 (List.mem_of_getElem? (i := 37) rfl)) rfl
theorem wM_L_43 : Cond.methodLink RL 43 yX9_text ∈ okW := ok_of (tb_3 (List.mem_of_getElem? (i := 38) rfl)) rfl
theorem wIM_X9_text : Cond.instanceMethod yX9_text ∈ okW := ok_of (tb_3 (List.mem_of_getElem? (i := 39) rfl)) rfl
theorem wSE_X9_text : Cond.selects yX9_text.cls yX9_text yX9_text ∈ okW := ok_of (tb_3 (List.mem_of_getElem? (i := 40) rfl)) rfl
theorem wCD_X9_text : Cond.code yX9_text cX9_text 6 (some .int) ∈ okW := ok_of (tb_3 (List.mem_of_getElem? (i := 41) rfl)) rfl
theorem wM_X9_117 : Cond.methodLink RX9 117 yX9_textAt ∈ okW := ok_of (tb_3 (List.mem_of_getElem? (i := 42) rfl)) rfl
theorem wIM_X9_textAt : Cond.instanceMethod yX9_textAt ∈ okW := ok_of (tb_3 (List.mem_of_getElem? (i := 44) rfl)) rfl
theorem wCD_X9_textAt : Cond.code yX9_textAt cX9_textAt 3 (some (.object "RingBars$Text")) ∈ okW := ok_of (tb_3 (List.mem_of_getElem? (i := 45) rfl)) rfl
theorem wM_X9_121 : Cond.methodLink RX9 121 yX4_start ∈ okW := ok_of (tb_3 (List.mem_of_getElem? (i := 46) rfl)) rfl
theorem wIM_X4_start : Cond.instanceMethod yX4_start ∈ okW := ok_of (tb_3 (List.mem_of_getElem? (i := 47) rfl)) rfl
theorem wSE_X4_start : Cond.selects yX4_start.cls yX4_start yX4_start ∈ okW := ok_of (tb_3 (List.mem_of_getElem? (i := 48) rfl)) rfl
theorem wCD_X4_start : Cond.code yX4_start cX4_start 7 none ∈ okW := ok_of (tb_3 (List.mem_of_getElem? (i := 49) rfl)) rfl
theorem wM_X4_39 : Cond.methodLink RX4 39 yX7_clear ∈ okW := ok_of (tb_3 (List.mem_of_getElem? (i := 50) rfl)) rfl
theorem wIM_X7_clear : Cond.instanceMethod yX7_clear ∈ okW := ok_of (tb_3 (List.mem_of_getElem? (i := 51) rfl)) rfl
theorem wSE_X7_clear : Cond.selects yX7_clear.cls yX7_clear yX7_clear ∈ okW := ok_of (tb_3 (List.mem_of_getElem? (i := 52) rfl)) rfl
theorem wCD_X7_clear : Cond.code yX7_clear cX7_clear 1 none ∈ okW := ok_of (tb_3 (List.mem_of_getElem? (i := 53) rfl)) rfl
theorem wM_X4_48 : Cond.methodLink RX4 48 yX4_isLetter ∈ okW := ok_of (tb_3 (List.mem_of_getElem? (i := 54) rfl)) rfl
theorem wST_X4_isLetter : Cond.static yX4_isLetter ∈ okW := ok_of (tb_3 (List.mem_of_getElem? (i := 55) rfl)) rfl
theorem wCD_X4_isLetter : Cond.code yX4_isLetter cX4_isLetter 1 (some .boolean) ∈ okW := ok_of (tb_3 (List.mem_of_getElem? (i := 56) rfl)) rfl
theorem wM_X4_52 : Cond.methodLink RX4 52 yX4_wordAt ∈ okW := ok_of (tb_3 (List.mem_of_getElem? (i := 57) rfl)) rfl
theorem wST_X4_wordAt : Cond.static yX4_wordAt ∈ okW := ok_of (tb_3 (List.mem_of_getElem? (i := 58) rfl)) rfl
theorem wCD_X4_wordAt : Cond.code yX4_wordAt cX4_wordAt 4 (some .int) ∈ okW := ok_of (tb_3 (List.mem_of_getElem? (i := 59) rfl)) rfl
theorem wM_X4_69 : Cond.methodLink RX4 69 yX4_isWord ∈ okW := ok_of (tb_3 (List.mem_of_getElem? (i := 60) rfl)) rfl
theorem wST_X4_isWord : Cond.static yX4_isWord ∈ okW := ok_of (tb_3 (List.mem_of_getElem? (i := 61) rfl)) rfl
theorem wCD_X4_isWord : Cond.code yX4_isWord cX4_isWord 6 (some .boolean) ∈ okW := ok_of (tb_3 (List.mem_of_getElem? (i := 62) rfl)) rfl
theorem wM_X4_75 : Cond.methodLink RX4 75 yJ0_charAt_5068e ∈ okW := ok_of (tb_3 (List.mem_of_getElem? (i := 64) rfl)) rfl
theorem wIM_J0_charAt_5068e : Cond.instanceMethod yJ0_charAt_5068e ∈ okW := ok_of (tb_3 (List.mem_of_getElem? (i := 65) rfl)) rfl
theorem wSE_J0_charAt_5068e : Cond.selects yJ0_charAt_5068e.cls yJ0_charAt_5068e yJ0_charAt_5068e ∈ okW := ok_of (tb_3 (List.mem_of_getElem? (i := 66) rfl)) rfl
theorem wCD_J0_charAt_5068e : Cond.code yJ0_charAt_5068e cJ0_charAt_5068e 2 (some .char) ∈ okW := ok_of (tb_3 (List.mem_of_getElem? (i := 67) rfl)) rfl
theorem wM_J0_492 : Cond.methodLink RJ0 492 yJ0_isLatin1_aae02 ∈ okW := ok_of (tb_3 (List.mem_of_getElem? (i := 68) rfl)) rfl
theorem wIM_J0_isLatin1_aae02 : Cond.instanceMethod yJ0_isLatin1_aae02 ∈ okW := ok_of (tb_3 (List.mem_of_getElem? (i := 69) rfl)) rfl
theorem wSE_J0_isLatin1_aae02 : Cond.selects yJ0_isLatin1_aae02.cls yJ0_isLatin1_aae02 yJ0_isLatin1_aae02 ∈ okW := ok_of (tb_3 (List.mem_of_getElem? (i := 70) rfl)) rfl
theorem wCD_J0_isLatin1_aae02 : Cond.code yJ0_isLatin1_aae02 cJ0_isLatin1_aae02 1 (some .boolean) ∈ okW := ok_of (tb_3 (List.mem_of_getElem? (i := 71) rfl)) rfl
theorem wM_J0_495 : Cond.methodLink RJ0 495 yJ1_charAt_3b067 ∈ okW := ok_of (tb_3 (List.mem_of_getElem? (i := 74) rfl)) rfl
theorem wST_J1_charAt_3b067 : Cond.static yJ1_charAt_3b067 ∈ okW := ok_of (tb_3 (List.mem_of_getElem? (i := 75) rfl)) rfl
theorem wCD_J1_charAt_3b067 : Cond.code yJ1_charAt_3b067 cJ1_charAt_3b067 2 (some .char) ∈ okW := ok_of (tb_3 (List.mem_of_getElem? (i := 76) rfl)) rfl
theorem wM_J1_9 : Cond.methodLink RJ1 9 yJ0_checkIndex_df160 ∈ okW := ok_of (tb_3 (List.mem_of_getElem? (i := 77) rfl)) rfl
theorem wST_J0_checkIndex_df160 : Cond.static yJ0_checkIndex_df160 ∈ okW := ok_of (tb_3 (List.mem_of_getElem? (i := 78) rfl)) rfl
theorem wCD_J0_checkIndex_df160 : Cond.code yJ0_checkIndex_df160 cJ0_checkIndex_df160 2 none ∈ okW := ok_of (tb_3 (List.mem_of_getElem? (i := 79) rfl)) rfl
theorem wM_J0_1059 : Cond.methodLink RJ0 1059 yJ3_checkIndex_8e157 ∈ okW := ok_of (tb_3 (List.mem_of_getElem? (i := 82) rfl)) rfl
theorem wST_J3_checkIndex_8e157 : Cond.static yJ3_checkIndex_8e157 ∈ okW := ok_of (tb_3 (List.mem_of_getElem? (i := 83) rfl)) rfl
theorem wCD_J3_checkIndex_8e157 : Cond.code yJ3_checkIndex_8e157 cJ3_checkIndex_8e157 3 (some .int) ∈ okW := ok_of (tb_3 (List.mem_of_getElem? (i := 84) rfl)) rfl
theorem wM_J0_498 : Cond.methodLink RJ0 498 yJ2_charAt_3b067 ∈ okW := ok_of (tb_3 (List.mem_of_getElem? (i := 85) rfl)) rfl
theorem wST_J2_charAt_3b067 : Cond.static yJ2_charAt_3b067 ∈ okW := ok_of (tb_3 (List.mem_of_getElem? (i := 86) rfl)) rfl
theorem wCD_J2_charAt_3b067 : Cond.code yJ2_charAt_3b067 cJ2_charAt_3b067 2 (some .char) ∈ okW := ok_of (tb_3 (List.mem_of_getElem? (i := 87) rfl)) rfl
theorem wM_J2_67 : Cond.methodLink RJ2 67 yJ2_checkIndex_2214a ∈ okW := ok_of (tb_3 (List.mem_of_getElem? (i := 88) rfl)) rfl
theorem wST_J2_checkIndex_2214a : Cond.static yJ2_checkIndex_2214a ∈ okW := ok_of (tb_3 (List.mem_of_getElem? (i := 89) rfl)) rfl
theorem wCD_J2_checkIndex_2214a : Cond.code yJ2_checkIndex_2214a cJ2_checkIndex_2214a 2 none ∈ okW := ok_of (tb_3 (List.mem_of_getElem? (i := 90) rfl)) rfl
theorem wM_J2_48 : Cond.methodLink RJ2 48 yJ2_length_9d52b ∈ okW := ok_of (tb_3 (List.mem_of_getElem? (i := 91) rfl)) rfl
theorem wST_J2_length_9d52b : Cond.static yJ2_length_9d52b ∈ okW := ok_of (tb_3 (List.mem_of_getElem? (i := 92) rfl)) rfl
theorem wCD_J2_length_9d52b : Cond.code yJ2_length_9d52b cJ2_length_9d52b 1 (some .int) ∈ okW := ok_of (tb_3 (List.mem_of_getElem? (i := 93) rfl)) rfl
theorem wM_J2_414 : Cond.methodLink RJ2 414 yJ0_checkIndex_df160 ∈ okW := ok_of (tb_3 (List.mem_of_getElem? (i := 94) rfl)) rfl
theorem wM_J2_71 : Cond.methodLink RJ2 71 yJ2_getChar_3b067 ∈ okW := ok_of (tb_3 (List.mem_of_getElem? (i := 95) rfl)) rfl
theorem wST_J2_getChar_3b067 : Cond.static yJ2_getChar_3b067 ∈ okW := ok_of (tb_3 (List.mem_of_getElem? (i := 96) rfl)) rfl
theorem wCD_J2_getChar_3b067 : Cond.code yJ2_getChar_3b067 cJ2_getChar_3b067 2 (some .char) ∈ okW := ok_of (tb_3 (List.mem_of_getElem? (i := 97) rfl)) rfl
theorem wM_X4_56 : Cond.methodLink RX4 56 yX4_addToken ∈ okW := ok_of (tb_3 (List.mem_of_getElem? (i := 104) rfl)) rfl
theorem wIM_X4_addToken : Cond.instanceMethod yX4_addToken ∈ okW := ok_of (tb_3 (List.mem_of_getElem? (i := 106) rfl)) rfl
theorem wCD_X4_addToken : Cond.code yX4_addToken cX4_addToken 4 none ∈ okW := ok_of (tb_3 (List.mem_of_getElem? (i := 107) rfl)) rfl
theorem wM_X4_60 : Cond.methodLink RX4 60 yX4_isDigit ∈ okW := ok_of (tb_3 (List.mem_of_getElem? (i := 108) rfl)) rfl
theorem wST_X4_isDigit : Cond.static yX4_isDigit ∈ okW := ok_of (tb_3 (List.mem_of_getElem? (i := 109) rfl)) rfl
theorem wCD_X4_isDigit : Cond.code yX4_isDigit cX4_isDigit 1 (some .boolean) ∈ okW := ok_of (tb_3 (List.mem_of_getElem? (i := 110) rfl)) rfl
theorem wM_X4_63 : Cond.methodLink RX4 63 yX4_numberAt ∈ okW := ok_of (tb_3 (List.mem_of_getElem? (i := 111) rfl)) rfl
theorem wST_X4_numberAt : Cond.static yX4_numberAt ∈ okW := ok_of (tb_3 (List.mem_of_getElem? (i := 112) rfl)) rfl
theorem wCD_X4_numberAt : Cond.code yX4_numberAt cX4_numberAt 5 (some .int) ∈ okW := ok_of (tb_3 (List.mem_of_getElem? (i := 113) rfl)) rfl
theorem wM_X4_66 : Cond.methodLink RX4 66 yX4_isSign ∈ okW := ok_of (tb_3 (List.mem_of_getElem? (i := 114) rfl)) rfl
theorem wST_X4_isSign : Cond.static yX4_isSign ∈ okW := ok_of (tb_3 (List.mem_of_getElem? (i := 115) rfl)) rfl
theorem wCD_X4_isSign : Cond.code yX4_isSign cX4_isSign 1 (some .boolean) ∈ okW := ok_of (tb_3 (List.mem_of_getElem? (i := 116) rfl)) rfl
theorem wM_X9_125 : Cond.methodLink RX9 125 yX4_goesOn ∈ okW := ok_of (tb_3 (List.mem_of_getElem? (i := 117) rfl)) rfl
theorem wIM_X4_goesOn : Cond.instanceMethod yX4_goesOn ∈ okW := ok_of (tb_3 (List.mem_of_getElem? (i := 118) rfl)) rfl
theorem wSE_X4_goesOn : Cond.selects yX4_goesOn.cls yX4_goesOn yX4_goesOn ∈ okW := ok_of (tb_3 (List.mem_of_getElem? (i := 119) rfl)) rfl
theorem wCD_X4_goesOn : Cond.code yX4_goesOn cX4_goesOn 1 (some .boolean) ∈ okW := ok_of (tb_3 (List.mem_of_getElem? (i := 120) rfl)) rfl
theorem wM_X9_129 : Cond.methodLink RX9 129 yX4_line ∈ okW := ok_of (tb_3 (List.mem_of_getElem? (i := 121) rfl)) rfl
theorem wIM_X4_line : Cond.instanceMethod yX4_line ∈ okW := ok_of (tb_3 (List.mem_of_getElem? (i := 122) rfl)) rfl
theorem wSE_X4_line : Cond.selects yX4_line.cls yX4_line yX4_line ∈ okW := ok_of (tb_3 (List.mem_of_getElem? (i := 123) rfl)) rfl
theorem wCD_X4_line : Cond.code yX4_line cX4_line 3 (some .boolean) ∈ okW := ok_of (tb_3 (List.mem_of_getElem? (i := 124) rfl)) rfl
theorem wM_X4_81 : Cond.methodLink RX4 81 yX4_refuse ∈ okW := ok_of (tb_3 (List.mem_of_getElem? (i := 125) rfl)) rfl
theorem wIM_X4_refuse : Cond.instanceMethod yX4_refuse ∈ okW := ok_of (tb_3 (List.mem_of_getElem? (i := 127) rfl)) rfl
theorem wCD_X4_refuse : Cond.code yX4_refuse cX4_refuse 2 (some .boolean) ∈ okW := ok_of (tb_3 (List.mem_of_getElem? (i := 128) rfl)) rfl
theorem wM_X4_99 : Cond.methodLink RX4 99 yX4_lawHead ∈ okW := ok_of (tb_3 (List.mem_of_getElem? (i := 129) rfl)) rfl
theorem wIM_X4_lawHead : Cond.instanceMethod yX4_lawHead ∈ okW := ok_of (tb_3 (List.mem_of_getElem? (i := 131) rfl)) rfl
theorem wCD_X4_lawHead : Cond.code yX4_lawHead cX4_lawHead 3 (some .boolean) ∈ okW := ok_of (tb_3 (List.mem_of_getElem? (i := 132) rfl)) rfl
theorem wM_X4_119 : Cond.methodLink RX4 119 yX4_number ∈ okW := ok_of (tb_3 (List.mem_of_getElem? (i := 133) rfl)) rfl
theorem wIM_X4_number : Cond.instanceMethod yX4_number ∈ okW := ok_of (tb_3 (List.mem_of_getElem? (i := 135) rfl)) rfl
theorem wCD_X4_number : Cond.code yX4_number cX4_number 3 (some .boolean) ∈ okW := ok_of (tb_3 (List.mem_of_getElem? (i := 136) rfl)) rfl
theorem wM_X4_103 : Cond.methodLink RX4 103 yX4_sum ∈ okW := ok_of (tb_3 (List.mem_of_getElem? (i := 137) rfl)) rfl
theorem wIM_X4_sum : Cond.instanceMethod yX4_sum ∈ okW := ok_of (tb_3 (List.mem_of_getElem? (i := 139) rfl)) rfl
theorem wCD_X4_sum : Cond.code yX4_sum cX4_sum 3 (some .boolean) ∈ okW := ok_of (tb_3 (List.mem_of_getElem? (i := 140) rfl)) rfl
theorem wM_X4_141 : Cond.methodLink RX4 141 yX4_term ∈ okW := ok_of (tb_3 (List.mem_of_getElem? (i := 141) rfl)) rfl
theorem wIM_X4_term : Cond.instanceMethod yX4_term ∈ okW := ok_of (tb_3 (List.mem_of_getElem? (i := 143) rfl)) rfl
theorem wCD_X4_term : Cond.code yX4_term cX4_term 5 (some .boolean) ∈ okW := ok_of (tb_3 (List.mem_of_getElem? (i := 144) rfl)) rfl
theorem wM_X4_144 : Cond.methodLink RX4 144 yX4_isUnit ∈ okW := ok_of (tb_3 (List.mem_of_getElem? (i := 145) rfl)) rfl
theorem wIM_X4_isUnit : Cond.instanceMethod yX4_isUnit ∈ okW := ok_of (tb_3 (List.mem_of_getElem? (i := 147) rfl)) rfl
theorem wCD_X4_isUnit : Cond.code yX4_isUnit cX4_isUnit 2 (some .boolean) ∈ okW := ok_of (tb_3 (List.mem_of_getElem? (i := 148) rfl)) rfl
theorem wM_X4_131 : Cond.methodLink RX4 131 yX7_addStep ∈ okW := ok_of (tb_3 (List.mem_of_getElem? (i := 149) rfl)) rfl
theorem wIM_X7_addStep : Cond.instanceMethod yX7_addStep ∈ okW := ok_of (tb_3 (List.mem_of_getElem? (i := 150) rfl)) rfl
theorem wSE_X7_addStep : Cond.selects yX7_addStep.cls yX7_addStep yX7_addStep ∈ okW := ok_of (tb_3 (List.mem_of_getElem? (i := 151) rfl)) rfl
theorem wCD_X7_addStep : Cond.code yX7_addStep cX7_addStep 3 none ∈ okW := ok_of (tb_3 (List.mem_of_getElem? (i := 152) rfl)) rfl
theorem wK_X7_43 : Cond.constant RX7 43 (100000) ∈ okW := ok_of (tb_3 (List.mem_of_getElem? (i := 153) rfl)) rfl
theorem wM_X4_107 : Cond.methodLink RX4 107 yX4_jobHead ∈ okW := ok_of (tb_3 (List.mem_of_getElem? (i := 154) rfl)) rfl
theorem wIM_X4_jobHead : Cond.instanceMethod yX4_jobHead ∈ okW := ok_of (tb_3 (List.mem_of_getElem? (i := 156) rfl)) rfl
theorem wCD_X4_jobHead : Cond.code yX4_jobHead cX4_jobHead 3 (some .boolean) ∈ okW := ok_of (tb_3 (List.mem_of_getElem? (i := 157) rfl)) rfl
theorem wM_X4_113 : Cond.methodLink RX4 113 yX4_either ∈ okW := ok_of (tb_3 (List.mem_of_getElem? (i := 158) rfl)) rfl
theorem wIM_X4_either : Cond.instanceMethod yX4_either ∈ okW := ok_of (tb_3 (List.mem_of_getElem? (i := 160) rfl)) rfl
theorem wCD_X4_either : Cond.code yX4_either cX4_either 3 (some .boolean) ∈ okW := ok_of (tb_3 (List.mem_of_getElem? (i := 161) rfl)) rfl
theorem wM_X4_128 : Cond.methodLink RX4 128 yX4_both ∈ okW := ok_of (tb_3 (List.mem_of_getElem? (i := 162) rfl)) rfl
theorem wIM_X4_both : Cond.instanceMethod yX4_both ∈ okW := ok_of (tb_3 (List.mem_of_getElem? (i := 164) rfl)) rfl
theorem wCD_X4_both : Cond.code yX4_both cX4_both 3 (some .boolean) ∈ okW := ok_of (tb_3 (List.mem_of_getElem? (i := 165) rfl)) rfl
theorem wM_X4_135 : Cond.methodLink RX4 135 yX4_part ∈ okW := ok_of (tb_3 (List.mem_of_getElem? (i := 166) rfl)) rfl
theorem wIM_X4_part : Cond.instanceMethod yX4_part ∈ okW := ok_of (tb_3 (List.mem_of_getElem? (i := 168) rfl)) rfl
theorem wCD_X4_part : Cond.code yX4_part cX4_part 4 (some .boolean) ∈ okW := ok_of (tb_3 (List.mem_of_getElem? (i := 169) rfl)) rfl
theorem wM_X4_138 : Cond.methodLink RX4 138 yX4_opened ∈ okW := ok_of (tb_3 (List.mem_of_getElem? (i := 170) rfl)) rfl
theorem wIM_X4_opened : Cond.instanceMethod yX4_opened ∈ okW := ok_of (tb_3 (List.mem_of_getElem? (i := 172) rfl)) rfl
theorem wCD_X4_opened : Cond.code yX4_opened cX4_opened 3 (some .boolean) ∈ okW := ok_of (tb_3 (List.mem_of_getElem? (i := 173) rfl)) rfl
theorem wM_X9_138 : Cond.methodLink RX9 138 yX7_copyFrom ∈ okW := ok_of (tb_3 (List.mem_of_getElem? (i := 174) rfl)) rfl
theorem wIM_X7_copyFrom : Cond.instanceMethod yX7_copyFrom ∈ okW := ok_of (tb_3 (List.mem_of_getElem? (i := 175) rfl)) rfl
theorem wSE_X7_copyFrom : Cond.selects yX7_copyFrom.cls yX7_copyFrom yX7_copyFrom ∈ okW := ok_of (tb_3 (List.mem_of_getElem? (i := 176) rfl)) rfl
theorem wCD_X7_copyFrom : Cond.code yX7_copyFrom cX7_copyFrom 2 none ∈ okW := ok_of (tb_3 (List.mem_of_getElem? (i := 177) rfl)) rfl
theorem wM_X7_44 : Cond.methodLink RX7 44 ⟨"java/lang/System", "arraycopy", "(Ljava/lang/Object;ILjava/lang/Object;II)V"⟩ ∈ okW := ok_of (tb_3 (List.mem_of_getElem? (i := 178) rfl)) rfl
theorem wST_arraycopy : Cond.static ⟨"java/lang/System", "arraycopy", "(Ljava/lang/Object;ILjava/lang/Object;II)V"⟩ ∈ okW := ok_of (tb_3 (List.mem_of_getElem? (i := 179) rfl)) rfl
theorem wNT_arraycopy : Cond.native ⟨"java/lang/System", "arraycopy", "(Ljava/lang/Object;ILjava/lang/Object;II)V"⟩ ∈ okW := ok_of (tb_3 (List.mem_of_getElem? (i := 180) rfl)) rfl
theorem wAC_byte : Cond.arrayClass .byte ∈ okW := ok_of (tb_3 (List.mem_of_getElem? (i := 181) rfl)) rfl
theorem wM_L_48 : Cond.methodLink RL 48 yX9_fault ∈ okW := ok_of (tb_3 (List.mem_of_getElem? (i := 182) rfl)) rfl
theorem wIM_X9_fault : Cond.instanceMethod yX9_fault ∈ okW := ok_of (tb_3 (List.mem_of_getElem? (i := 183) rfl)) rfl
theorem wSE_X9_fault : Cond.selects yX9_fault.cls yX9_fault yX9_fault ∈ okW := ok_of (tb_3 (List.mem_of_getElem? (i := 184) rfl)) rfl
theorem wCD_X9_fault : Cond.code yX9_fault cX9_fault 2 (some .int) ∈ okW := ok_of (tb_3 (List.mem_of_getElem? (i := 185) rfl)) rfl
theorem wM_L_52 : Cond.methodLink RL 52 yX9_force ∈ okW := ok_of (tb_3 (List.mem_of_getElem? (i := 186) rfl)) rfl
theorem wIM_X9_force : Cond.instanceMethod yX9_force ∈ okW := ok_of (tb_3 (List.mem_of_getElem? (i := 187) rfl)) rfl
theorem wSE_X9_force : Cond.selects yX9_force.cls yX9_force yX9_force ∈ okW := ok_of (tb_3 (List.mem_of_getElem? (i := 188) rfl)) rfl
theorem wCD_X9_force : Cond.code yX9_force cX9_force 3 (some .int) ∈ okW := ok_of (tb_3 (List.mem_of_getElem? (i := 189) rfl)) rfl
theorem wM_L_56 : Cond.methodLink RL 56 yX9_tells ∈ okW := ok_of (tb_3 (List.mem_of_getElem? (i := 190) rfl)) rfl
theorem wIM_X9_tells : Cond.instanceMethod yX9_tells ∈ okW := ok_of (tb_3 (List.mem_of_getElem? (i := 191) rfl)) rfl
theorem wSE_X9_tells : Cond.selects yX9_tells.cls yX9_tells yX9_tells ∈ okW := ok_of (tb_3 (List.mem_of_getElem? (i := 192) rfl)) rfl
theorem wCD_X9_tells : Cond.code yX9_tells cX9_tells 7 (some .int) ∈ okW := ok_of (tb_3 (List.mem_of_getElem? (i := 193) rfl)) rfl
theorem wM_X9_150 : Cond.methodLink RX9 150 yX9_isTone ∈ okW := ok_of (tb_3 (List.mem_of_getElem? (i := 194) rfl)) rfl
theorem wST_X9_isTone : Cond.static yX9_isTone ∈ okW := ok_of (tb_3 (List.mem_of_getElem? (i := 195) rfl)) rfl
theorem wCD_X9_isTone : Cond.code yX9_isTone cX9_isTone 1 (some .boolean) ∈ okW := ok_of (tb_3 (List.mem_of_getElem? (i := 196) rfl)) rfl
theorem wK_X9_153 : Cond.constant RX9 153 (-100000) ∈ okW := ok_of (tb_3 (List.mem_of_getElem? (i := 197) rfl)) rfl
theorem wM_X9_154 : Cond.methodLink RX9 154 yX6_seeSlice ∈ okW := ok_of (tb_3 (List.mem_of_getElem? (i := 198) rfl)) rfl
theorem wIM_X6_seeSlice : Cond.instanceMethod yX6_seeSlice ∈ okW := ok_of (tb_3 (List.mem_of_getElem? (i := 199) rfl)) rfl
theorem wSE_X6_seeSlice : Cond.selects yX6_seeSlice.cls yX6_seeSlice yX6_seeSlice ∈ okW := ok_of (tb_3 (List.mem_of_getElem? (i := 200) rfl)) rfl
theorem wCD_X6_seeSlice : Cond.code yX6_seeSlice cX6_seeSlice 6 none ∈ okW := ok_of (tb_3 (List.mem_of_getElem? (i := 201) rfl)) rfl
theorem wM_X6_24 : Cond.methodLink RX6 24 yJ9_abs_0f7a4 ∈ okW := ok_of (tb_3 (List.mem_of_getElem? (i := 202) rfl)) rfl
theorem wST_J9_abs_0f7a4 : Cond.static yJ9_abs_0f7a4 ∈ okW := ok_of (tb_3 (List.mem_of_getElem? (i := 203) rfl)) rfl
theorem wCD_J9_abs_0f7a4 : Cond.code yJ9_abs_0f7a4 cJ9_abs_0f7a4 1 (some .int) ∈ okW := ok_of (tb_3 (List.mem_of_getElem? (i := 204) rfl)) rfl
theorem wM_X6_30 : Cond.methodLink RX6 30 yJ9_min_7cf53 ∈ okW := ok_of (tb_3 (List.mem_of_getElem? (i := 205) rfl)) rfl
theorem wST_J9_min_7cf53 : Cond.static yJ9_min_7cf53 ∈ okW := ok_of (tb_3 (List.mem_of_getElem? (i := 206) rfl)) rfl
theorem wCD_J9_min_7cf53 : Cond.code yJ9_min_7cf53 cJ9_min_7cf53 2 (some .int) ∈ okW := ok_of (tb_3 (List.mem_of_getElem? (i := 207) rfl)) rfl
theorem wM_X9_162 : Cond.methodLink RX9 162 yX6_told ∈ okW := ok_of (tb_3 (List.mem_of_getElem? (i := 208) rfl)) rfl
theorem wIM_X6_told : Cond.instanceMethod yX6_told ∈ okW := ok_of (tb_3 (List.mem_of_getElem? (i := 209) rfl)) rfl
theorem wSE_X6_told : Cond.selects yX6_told.cls yX6_told yX6_told ∈ okW := ok_of (tb_3 (List.mem_of_getElem? (i := 210) rfl)) rfl
theorem wCD_X6_told : Cond.code yX6_told cX6_told 6 (some .int) ∈ okW := ok_of (tb_3 (List.mem_of_getElem? (i := 211) rfl)) rfl
theorem wM_X6_54 : Cond.methodLink RX6 54 yX7_hasWhen ∈ okW := ok_of (tb_3 (List.mem_of_getElem? (i := 212) rfl)) rfl
theorem wIM_X7_hasWhen : Cond.instanceMethod yX7_hasWhen ∈ okW := ok_of (tb_3 (List.mem_of_getElem? (i := 213) rfl)) rfl
theorem wSE_X7_hasWhen : Cond.selects yX7_hasWhen.cls yX7_hasWhen yX7_hasWhen ∈ okW := ok_of (tb_3 (List.mem_of_getElem? (i := 214) rfl)) rfl
theorem wCD_X7_hasWhen : Cond.code yX7_hasWhen cX7_hasWhen 2 (some .boolean) ∈ okW := ok_of (tb_3 (List.mem_of_getElem? (i := 215) rfl)) rfl
theorem wM_X6_64 : Cond.methodLink RX6 64 yX6_value ∈ okW := ok_of (tb_3 (List.mem_of_getElem? (i := 216) rfl)) rfl
theorem wIM_X6_value : Cond.instanceMethod yX6_value ∈ okW := ok_of (tb_3 (List.mem_of_getElem? (i := 217) rfl)) rfl
theorem wSE_X6_value : Cond.selects yX6_value.cls yX6_value yX6_value ∈ okW := ok_of (tb_3 (List.mem_of_getElem? (i := 218) rfl)) rfl
theorem wCD_X6_value : Cond.code yX6_value cX6_value 9 (some .int) ∈ okW := ok_of (tb_3 (List.mem_of_getElem? (i := 219) rfl)) rfl
theorem wK_X6_97 : Cond.constant RX6 97 (100000) ∈ okW := ok_of (tb_3 (List.mem_of_getElem? (i := 220) rfl)) rfl
theorem wM_X6_98 : Cond.methodLink RX6 98 yX6_joined ∈ okW := ok_of (tb_3 (List.mem_of_getElem? (i := 221) rfl)) rfl
theorem wST_X6_joined : Cond.static yX6_joined ∈ okW := ok_of (tb_3 (List.mem_of_getElem? (i := 222) rfl)) rfl
theorem wCD_X6_joined : Cond.code yX6_joined cX6_joined 3 (some .int) ∈ okW := ok_of (tb_3 (List.mem_of_getElem? (i := 223) rfl)) rfl
theorem wK_X6_71 : Cond.constant RX6 71 (99999) ∈ okW := ok_of (tb_3 (List.mem_of_getElem? (i := 224) rfl)) rfl
theorem wM_X6_72 : Cond.methodLink RX6 72 yJ9_max_7cf53 ∈ okW := ok_of (tb_3 (List.mem_of_getElem? (i := 225) rfl)) rfl
theorem wST_J9_max_7cf53 : Cond.static yJ9_max_7cf53 ∈ okW := ok_of (tb_3 (List.mem_of_getElem? (i := 226) rfl)) rfl
theorem wCD_J9_max_7cf53 : Cond.code yJ9_max_7cf53 cJ9_max_7cf53 2 (some .int) ∈ okW := ok_of (tb_3 (List.mem_of_getElem? (i := 227) rfl)) rfl
theorem wM_L_60 : Cond.methodLink RL 60 yX9_tone ∈ okW := ok_of (tb_3 (List.mem_of_getElem? (i := 228) rfl)) rfl
theorem wIM_X9_tone : Cond.instanceMethod yX9_tone ∈ okW := ok_of (tb_3 (List.mem_of_getElem? (i := 229) rfl)) rfl
theorem wSE_X9_tone : Cond.selects yX9_tone.cls yX9_tone yX9_tone ∈ okW := ok_of (tb_3 (List.mem_of_getElem? (i := 230) rfl)) rfl
theorem wCD_X9_tone : Cond.code yX9_tone cX9_tone 4 (some .int) ∈ okW := ok_of (tb_3 (List.mem_of_getElem? (i := 231) rfl)) rfl
theorem wM_X9_166 : Cond.methodLink RX9 166 yX9_toneNow ∈ okW := ok_of (tb_3 (List.mem_of_getElem? (i := 232) rfl)) rfl
theorem wIM_X9_toneNow : Cond.instanceMethod yX9_toneNow ∈ okW := ok_of (tb_3 (List.mem_of_getElem? (i := 234) rfl)) rfl
theorem wCD_X9_toneNow : Cond.code yX9_toneNow cX9_toneNow 3 (some .int) ∈ okW := ok_of (tb_3 (List.mem_of_getElem? (i := 235) rfl)) rfl
theorem wM_X9_212 : Cond.methodLink RX9 212 yX8_law ∈ okW := ok_of (tb_3 (List.mem_of_getElem? (i := 236) rfl)) rfl
theorem wIM_X8_law : Cond.instanceMethod yX8_law ∈ okW := ok_of (tb_3 (List.mem_of_getElem? (i := 237) rfl)) rfl
theorem wSE_X8_law : Cond.selects yX8_law.cls yX8_law yX8_law ∈ okW := ok_of (tb_3 (List.mem_of_getElem? (i := 238) rfl)) rfl
theorem wCD_X8_law : Cond.code yX8_law cX8_law 1 (some (.object "RingBars$Text")) ∈ okW := ok_of (tb_3 (List.mem_of_getElem? (i := 239) rfl)) rfl
theorem wM_X9_216 : Cond.methodLink RX9 216 yX6_toneOf ∈ okW := ok_of (tb_4 (List.mem_of_getElem? (i := 0) rfl)) rfl
theorem wIM_X6_toneOf : Cond.instanceMethod yX6_toneOf ∈ okW := ok_of (tb_4 (List.mem_of_getElem? (i := 1) rfl)) rfl
theorem wSE_X6_toneOf : Cond.selects yX6_toneOf.cls yX6_toneOf yX6_toneOf ∈ okW := ok_of (tb_4 (List.mem_of_getElem? (i := 2) rfl)) rfl
theorem wCD_X6_toneOf : Cond.code yX6_toneOf cX6_toneOf 10 (some .int) ∈ okW := ok_of (tb_4 (List.mem_of_getElem? (i := 3) rfl)) rfl
theorem wM_X6_75 : Cond.methodLink RX6 75 yX6_seeSlice ∈ okW := ok_of (tb_4 (List.mem_of_getElem? (i := 4) rfl)) rfl
theorem wM_X6_79 : Cond.methodLink RX6 79 yX6_told ∈ okW := ok_of (tb_4 (List.mem_of_getElem? (i := 5) rfl)) rfl
theorem wST_X9_ratio : Cond.static yX9_ratio ∈ okW := ok_of (tb_4 (List.mem_of_getElem? (i := 7) rfl)) rfl
theorem wCD_X9_ratio : Cond.code yX9_ratio cX9_ratio 2 (some .int) ∈ okW := ok_of (tb_4 (List.mem_of_getElem? (i := 8) rfl)) rfl
theorem wK_X9_360 : Cond.constantLong RX9 360 (1000) ∈ okW := ok_of (tb_4 (List.mem_of_getElem? (i := 9) rfl)) rfl
theorem wM_L_64 : Cond.methodLink RL 64 yX9_shave ∈ okW := ok_of (tb_4 (List.mem_of_getElem? (i := 10) rfl)) rfl
theorem wIM_X9_shave : Cond.instanceMethod yX9_shave ∈ okW := ok_of (tb_4 (List.mem_of_getElem? (i := 11) rfl)) rfl
theorem wSE_X9_shave : Cond.selects yX9_shave.cls yX9_shave yX9_shave ∈ okW := ok_of (tb_4 (List.mem_of_getElem? (i := 12) rfl)) rfl
theorem wCD_X9_shave : Cond.code yX9_shave cX9_shave 5 (some .int) ∈ okW := ok_of (tb_4 (List.mem_of_getElem? (i := 13) rfl)) rfl
theorem wM_X9_170 : Cond.methodLink RX9 170 yX9_takeOff ∈ okW := ok_of (tb_4 (List.mem_of_getElem? (i := 14) rfl)) rfl
theorem wIM_X9_takeOff : Cond.instanceMethod yX9_takeOff ∈ okW := ok_of (tb_4 (List.mem_of_getElem? (i := 16) rfl)) rfl
theorem wCD_X9_takeOff : Cond.code yX9_takeOff cX9_takeOff 4 (some .int) ∈ okW := ok_of (tb_4 (List.mem_of_getElem? (i := 17) rfl)) rfl
theorem wM_X9_190 : Cond.methodLink RX9 190 yX9_isLost ∈ okW := ok_of (tb_4 (List.mem_of_getElem? (i := 18) rfl)) rfl
theorem wIM_X9_isLost : Cond.instanceMethod yX9_isLost ∈ okW := ok_of (tb_4 (List.mem_of_getElem? (i := 20) rfl)) rfl
theorem wCD_X9_isLost : Cond.code yX9_isLost cX9_isLost 3 (some .boolean) ∈ okW := ok_of (tb_4 (List.mem_of_getElem? (i := 21) rfl)) rfl
theorem wM_L_68 : Cond.methodLink RL 68 yX9_pass ∈ okW := ok_of (tb_4 (List.mem_of_getElem? (i := 22) rfl)) rfl
theorem wIM_X9_pass : Cond.instanceMethod yX9_pass ∈ okW := ok_of (tb_4 (List.mem_of_getElem? (i := 23) rfl)) rfl
theorem wSE_X9_pass : Cond.selects yX9_pass.cls yX9_pass yX9_pass ∈ okW := ok_of (tb_4 (List.mem_of_getElem? (i := 24) rfl)) rfl
theorem wCD_X9_pass : Cond.code yX9_pass cX9_pass 5 (some .int) ∈ okW := ok_of (tb_4 (List.mem_of_getElem? (i := 25) rfl)) rfl
theorem wM_L_72 : Cond.methodLink RL 72 yX9_goal ∈ okW := ok_of (tb_4 (List.mem_of_getElem? (i := 26) rfl)) rfl
theorem wIM_X9_goal : Cond.instanceMethod yX9_goal ∈ okW := ok_of (tb_4 (List.mem_of_getElem? (i := 27) rfl)) rfl
theorem wSE_X9_goal : Cond.selects yX9_goal.cls yX9_goal yX9_goal ∈ okW := ok_of (tb_4 (List.mem_of_getElem? (i := 28) rfl)) rfl
theorem wCD_X9_goal : Cond.code yX9_goal cX9_goal 5 (some .boolean) ∈ okW := ok_of (tb_4 (List.mem_of_getElem? (i := 29) rfl)) rfl
theorem wK_X9_180 : Cond.constant RX9 180 (999999) ∈ okW := ok_of (tb_4 (List.mem_of_getElem? (i := 30) rfl)) rfl
theorem wM_L_76 : Cond.methodLink RL 76 yX9_slack ∈ okW := ok_of (tb_4 (List.mem_of_getElem? (i := 31) rfl)) rfl
theorem wIM_X9_slack : Cond.instanceMethod yX9_slack ∈ okW := ok_of (tb_4 (List.mem_of_getElem? (i := 32) rfl)) rfl
theorem wSE_X9_slack : Cond.selects yX9_slack.cls yX9_slack yX9_slack ∈ okW := ok_of (tb_4 (List.mem_of_getElem? (i := 33) rfl)) rfl
theorem wCD_X9_slack : Cond.code yX9_slack cX9_slack 2 (some .boolean) ∈ okW := ok_of (tb_4 (List.mem_of_getElem? (i := 34) rfl)) rfl
theorem wM_L_80 : Cond.methodLink RL 80 yX9_state ∈ okW := ok_of (tb_4 (List.mem_of_getElem? (i := 35) rfl)) rfl
theorem wIM_X9_state : Cond.instanceMethod yX9_state ∈ okW := ok_of (tb_4 (List.mem_of_getElem? (i := 36) rfl)) rfl
theorem wSE_X9_state : Cond.selects yX9_state.cls yX9_state yX9_state ∈ okW := ok_of (tb_4 (List.mem_of_getElem? (i := 37) rfl)) rfl
theorem wCD_X9_state : Cond.code yX9_state cX9_state 4 (some .int) ∈ okW := ok_of (tb_4 (List.mem_of_getElem? (i := 38) rfl)) rfl
theorem wM_X9_194 : Cond.methodLink RX9 194 yX9_isTrue ∈ okW := ok_of (tb_4 (List.mem_of_getElem? (i := 39) rfl)) rfl
theorem wIM_X9_isTrue : Cond.instanceMethod yX9_isTrue ∈ okW := ok_of (tb_4 (List.mem_of_getElem? (i := 41) rfl)) rfl
theorem wCD_X9_isTrue : Cond.code yX9_isTrue cX9_isTrue 3 (some .boolean) ∈ okW := ok_of (tb_4 (List.mem_of_getElem? (i := 42) rfl)) rfl
theorem wM_X9_362 : Cond.methodLink RX9 362 yJ9_abs_0f7a4 ∈ okW := ok_of (tb_4 (List.mem_of_getElem? (i := 43) rfl)) rfl
theorem wM_X9_203 : Cond.methodLink RX9 203 yX9_amiss ∈ okW := ok_of (tb_4 (List.mem_of_getElem? (i := 44) rfl)) rfl
theorem wIM_X9_amiss : Cond.instanceMethod yX9_amiss ∈ okW := ok_of (tb_4 (List.mem_of_getElem? (i := 46) rfl)) rfl
theorem wCD_X9_amiss : Cond.code yX9_amiss cX9_amiss 3 (some .int) ∈ okW := ok_of (tb_4 (List.mem_of_getElem? (i := 47) rfl)) rfl
theorem wM_X9_263 : Cond.methodLink RX9 263 yX9_findPoints ∈ okW := ok_of (tb_4 (List.mem_of_getElem? (i := 48) rfl)) rfl
theorem wIM_X9_findPoints : Cond.instanceMethod yX9_findPoints ∈ okW := ok_of (tb_4 (List.mem_of_getElem? (i := 50) rfl)) rfl
theorem wCD_X9_findPoints : Cond.code yX9_findPoints cX9_findPoints 7 (some .int) ∈ okW := ok_of (tb_4 (List.mem_of_getElem? (i := 51) rfl)) rfl
theorem wM_L_84 : Cond.methodLink RL 84 yX9_takes ∈ okW := ok_of (tb_4 (List.mem_of_getElem? (i := 52) rfl)) rfl
theorem wIM_X9_takes : Cond.instanceMethod yX9_takes ∈ okW := ok_of (tb_4 (List.mem_of_getElem? (i := 53) rfl)) rfl
theorem wSE_X9_takes : Cond.selects yX9_takes.cls yX9_takes yX9_takes ∈ okW := ok_of (tb_4 (List.mem_of_getElem? (i := 54) rfl)) rfl
theorem wCD_X9_takes : Cond.code yX9_takes cX9_takes 5 (some .int) ∈ okW := ok_of (tb_4 (List.mem_of_getElem? (i := 55) rfl)) rfl
theorem wK_X9_207 : Cond.constant RX9 207 (-10000000) ∈ okW := ok_of (tb_4 (List.mem_of_getElem? (i := 56) rfl)) rfl
theorem wM_X9_208 : Cond.methodLink RX9 208 yX0_thinnedCopy ∈ okW := ok_of (tb_4 (List.mem_of_getElem? (i := 57) rfl)) rfl
theorem wIM_X0_thinnedCopy : Cond.instanceMethod yX0_thinnedCopy ∈ okW := ok_of (tb_4 (List.mem_of_getElem? (i := 58) rfl)) rfl
theorem wSE_X0_thinnedCopy : Cond.selects yX0_thinnedCopy.cls yX0_thinnedCopy yX0_thinnedCopy ∈ okW := ok_of (tb_4 (List.mem_of_getElem? (i := 59) rfl)) rfl
theorem wCD_X0_thinnedCopy : Cond.code yX0_thinnedCopy cX0_thinnedCopy 3 none ∈ okW := ok_of (tb_4 (List.mem_of_getElem? (i := 60) rfl)) rfl
theorem wM_X0_75 : Cond.methodLink RX0 75 ⟨"java/lang/System", "arraycopy", "(Ljava/lang/Object;ILjava/lang/Object;II)V"⟩ ∈ okW := ok_of (tb_4 (List.mem_of_getElem? (i := 61) rfl)) rfl
theorem wM_L_88 : Cond.methodLink RL 88 yX9_job ∈ okW := ok_of (tb_4 (List.mem_of_getElem? (i := 62) rfl)) rfl
theorem wIM_X9_job : Cond.instanceMethod yX9_job ∈ okW := ok_of (tb_4 (List.mem_of_getElem? (i := 63) rfl)) rfl
theorem wSE_X9_job : Cond.selects yX9_job.cls yX9_job yX9_job ∈ okW := ok_of (tb_4 (List.mem_of_getElem? (i := 64) rfl)) rfl
theorem wCD_X9_job : Cond.code yX9_job cX9_job 7 (some .int) ∈ okW := ok_of (tb_4 (List.mem_of_getElem? (i := 65) rfl)) rfl
theorem wM_X9_223 : Cond.methodLink RX9 223 yX9_comesTrue ∈ okW := ok_of (tb_4 (List.mem_of_getElem? (i := 66) rfl)) rfl
theorem wIM_X9_comesTrue : Cond.instanceMethod yX9_comesTrue ∈ okW := ok_of (tb_4 (List.mem_of_getElem? (i := 68) rfl)) rfl
theorem wCD_X9_comesTrue : Cond.code yX9_comesTrue cX9_comesTrue 7 (some .boolean) ∈ okW := ok_of (tb_4 (List.mem_of_getElem? (i := 69) rfl)) rfl
theorem wM_X9_367 : Cond.methodLink RX9 367 yX7_hasWhen ∈ okW := ok_of (tb_4 (List.mem_of_getElem? (i := 70) rfl)) rfl
theorem wM_X9_370 : Cond.methodLink RX9 370 yX6_seeBar ∈ okW := ok_of (tb_4 (List.mem_of_getElem? (i := 71) rfl)) rfl
theorem wIM_X6_seeBar : Cond.instanceMethod yX6_seeBar ∈ okW := ok_of (tb_4 (List.mem_of_getElem? (i := 72) rfl)) rfl
theorem wSE_X6_seeBar : Cond.selects yX6_seeBar.cls yX6_seeBar yX6_seeBar ∈ okW := ok_of (tb_4 (List.mem_of_getElem? (i := 73) rfl)) rfl
theorem wCD_X6_seeBar : Cond.code yX6_seeBar cX6_seeBar 5 none ∈ okW := ok_of (tb_4 (List.mem_of_getElem? (i := 74) rfl)) rfl
theorem wM_X9_380 : Cond.methodLink RX9 380 yX6_value ∈ okW := ok_of (tb_4 (List.mem_of_getElem? (i := 75) rfl)) rfl
theorem wM_X9_227 : Cond.methodLink RX9 227 yX9_doLine ∈ okW := ok_of (tb_4 (List.mem_of_getElem? (i := 76) rfl)) rfl
theorem wIM_X9_doLine : Cond.instanceMethod yX9_doLine ∈ okW := ok_of (tb_4 (List.mem_of_getElem? (i := 78) rfl)) rfl
theorem wCD_X9_doLine : Cond.code yX9_doLine cX9_doLine 9 none ∈ okW := ok_of (tb_4 (List.mem_of_getElem? (i := 79) rfl)) rfl
theorem wM_X9_395 : Cond.methodLink RX9 395 yJ9_min_7cf53 ∈ okW := ok_of (tb_4 (List.mem_of_getElem? (i := 80) rfl)) rfl
theorem wM_L_92 : Cond.methodLink RL 92 yX9_fewest ∈ okW := ok_of (tb_4 (List.mem_of_getElem? (i := 81) rfl)) rfl
theorem wIM_X9_fewest : Cond.instanceMethod yX9_fewest ∈ okW := ok_of (tb_4 (List.mem_of_getElem? (i := 82) rfl)) rfl
theorem wSE_X9_fewest : Cond.selects yX9_fewest.cls yX9_fewest yX9_fewest ∈ okW := ok_of (tb_4 (List.mem_of_getElem? (i := 83) rfl)) rfl
theorem wCD_X9_fewest : Cond.code yX9_fewest cX9_fewest 5 (some .int) ∈ okW := ok_of (tb_4 (List.mem_of_getElem? (i := 84) rfl)) rfl
theorem wM_X9_231 : Cond.methodLink RX9 231 yX3_prepare ∈ okW := ok_of (tb_4 (List.mem_of_getElem? (i := 85) rfl)) rfl
theorem wIM_X3_prepare : Cond.instanceMethod yX3_prepare ∈ okW := ok_of (tb_4 (List.mem_of_getElem? (i := 86) rfl)) rfl
theorem wSE_X3_prepare : Cond.selects yX3_prepare.cls yX3_prepare yX3_prepare ∈ okW := ok_of (tb_4 (List.mem_of_getElem? (i := 87) rfl)) rfl
theorem wCD_X3_prepare : Cond.code yX3_prepare cX3_prepare 7 none ∈ okW := ok_of (tb_4 (List.mem_of_getElem? (i := 88) rfl)) rfl
theorem wM_X3_49 : Cond.methodLink RX3 49 yJ9_min_7cf53 ∈ okW := ok_of (tb_4 (List.mem_of_getElem? (i := 89) rfl)) rfl
theorem wM_X3_72 : Cond.methodLink RX3 72 yX6_seeSlice ∈ okW := ok_of (tb_4 (List.mem_of_getElem? (i := 90) rfl)) rfl
theorem wM_X3_78 : Cond.methodLink RX3 78 yX3_fill ∈ okW := ok_of (tb_4 (List.mem_of_getElem? (i := 91) rfl)) rfl
theorem wIM_X3_fill : Cond.instanceMethod yX3_fill ∈ okW := ok_of (tb_4 (List.mem_of_getElem? (i := 93) rfl)) rfl
theorem wCD_X3_fill : Cond.code yX3_fill cX3_fill 6 none ∈ okW := ok_of (tb_4 (List.mem_of_getElem? (i := 94) rfl)) rfl
theorem wM_X3_82 : Cond.methodLink RX3 82 yX3_place ∈ okW := ok_of (tb_4 (List.mem_of_getElem? (i := 95) rfl)) rfl
theorem wST_X3_place : Cond.static yX3_place ∈ okW := ok_of (tb_4 (List.mem_of_getElem? (i := 96) rfl)) rfl
theorem wCD_X3_place : Cond.code yX3_place cX3_place 3 (some .int) ∈ okW := ok_of (tb_4 (List.mem_of_getElem? (i := 97) rfl)) rfl
theorem wM_X3_86 : Cond.methodLink RX3 86 yX6_told ∈ okW := ok_of (tb_4 (List.mem_of_getElem? (i := 98) rfl)) rfl
theorem wM_X9_235 : Cond.methodLink RX9 235 yX3_find ∈ okW := ok_of (tb_4 (List.mem_of_getElem? (i := 99) rfl)) rfl
theorem wIM_X3_find : Cond.instanceMethod yX3_find ∈ okW := ok_of (tb_4 (List.mem_of_getElem? (i := 100) rfl)) rfl
theorem wSE_X3_find : Cond.selects yX3_find.cls yX3_find yX3_find ∈ okW := ok_of (tb_4 (List.mem_of_getElem? (i := 101) rfl)) rfl
theorem wCD_X3_find : Cond.code yX3_find cX3_find 2 (some .int) ∈ okW := ok_of (tb_4 (List.mem_of_getElem? (i := 102) rfl)) rfl
theorem wM_X3_90 : Cond.methodLink RX3 90 yX3_isTrueNow ∈ okW := ok_of (tb_4 (List.mem_of_getElem? (i := 103) rfl)) rfl
theorem wIM_X3_isTrueNow : Cond.instanceMethod yX3_isTrueNow ∈ okW := ok_of (tb_4 (List.mem_of_getElem? (i := 105) rfl)) rfl
theorem wCD_X3_isTrueNow : Cond.code yX3_isTrueNow cX3_isTrueNow 2 (some .boolean) ∈ okW := ok_of (tb_4 (List.mem_of_getElem? (i := 106) rfl)) rfl
theorem wM_X3_117 : Cond.methodLink RX3 117 yX3_isNear ∈ okW := ok_of (tb_4 (List.mem_of_getElem? (i := 107) rfl)) rfl
theorem wIM_X3_isNear : Cond.instanceMethod yX3_isNear ∈ okW := ok_of (tb_4 (List.mem_of_getElem? (i := 109) rfl)) rfl
theorem wCD_X3_isNear : Cond.code yX3_isNear cX3_isNear 6 (some .boolean) ∈ okW := ok_of (tb_4 (List.mem_of_getElem? (i := 110) rfl)) rfl
theorem wM_X3_94 : Cond.methodLink RX3 94 yX2_clear ∈ okW := ok_of (tb_4 (List.mem_of_getElem? (i := 112) rfl)) rfl
theorem wIM_X2_clear : Cond.instanceMethod yX2_clear ∈ okW := ok_of (tb_4 (List.mem_of_getElem? (i := 113) rfl)) rfl
theorem wSE_X2_clear : Cond.selects yX2_clear.cls yX2_clear yX2_clear ∈ okW := ok_of (tb_4 (List.mem_of_getElem? (i := 114) rfl)) rfl
theorem wCD_X2_clear : Cond.code yX2_clear cX2_clear 1 none ∈ okW := ok_of (tb_4 (List.mem_of_getElem? (i := 115) rfl)) rfl
theorem wM_X2_17 : Cond.methodLink RX2 17 yJ7_fill_53178 ∈ okW := ok_of (tb_4 (List.mem_of_getElem? (i := 116) rfl)) rfl
theorem wM_X3_97 : Cond.methodLink RX3 97 yX3_goOn ∈ okW := ok_of (tb_4 (List.mem_of_getElem? (i := 117) rfl)) rfl
theorem wIM_X3_goOn : Cond.instanceMethod yX3_goOn ∈ okW := ok_of (tb_4 (List.mem_of_getElem? (i := 119) rfl)) rfl
theorem wCD_X3_goOn : Cond.code yX3_goOn cX3_goOn 5 (some .boolean) ∈ okW := ok_of (tb_4 (List.mem_of_getElem? (i := 120) rfl)) rfl
theorem wM_X3_101 : Cond.methodLink RX3 101 yX3_isNearBehind ∈ okW := ok_of (tb_4 (List.mem_of_getElem? (i := 121) rfl)) rfl
theorem wIM_X3_isNearBehind : Cond.instanceMethod yX3_isNearBehind ∈ okW := ok_of (tb_4 (List.mem_of_getElem? (i := 123) rfl)) rfl
theorem wCD_X3_isNearBehind : Cond.code yX3_isNearBehind cX3_isNearBehind 7 (some .boolean) ∈ okW := ok_of (tb_4 (List.mem_of_getElem? (i := 124) rfl)) rfl
theorem wM_X3_105 : Cond.methodLink RX3 105 yX3_isReached ∈ okW := ok_of (tb_4 (List.mem_of_getElem? (i := 125) rfl)) rfl
theorem wIM_X3_isReached : Cond.instanceMethod yX3_isReached ∈ okW := ok_of (tb_4 (List.mem_of_getElem? (i := 127) rfl)) rfl
theorem wCD_X3_isReached : Cond.code yX3_isReached cX3_isReached 5 (some .boolean) ∈ okW := ok_of (tb_4 (List.mem_of_getElem? (i := 128) rfl)) rfl
theorem wM_X3_109 : Cond.methodLink RX3 109 yX3_move ∈ okW := ok_of (tb_4 (List.mem_of_getElem? (i := 129) rfl)) rfl
theorem wIM_X3_move : Cond.instanceMethod yX3_move ∈ okW := ok_of (tb_4 (List.mem_of_getElem? (i := 131) rfl)) rfl
theorem wCD_X3_move : Cond.code yX3_move cX3_move 6 none ∈ okW := ok_of (tb_4 (List.mem_of_getElem? (i := 132) rfl)) rfl
theorem wM_X3_113 : Cond.methodLink RX3 113 yX2_add ∈ okW := ok_of (tb_4 (List.mem_of_getElem? (i := 133) rfl)) rfl
theorem wIM_X2_add : Cond.instanceMethod yX2_add ∈ okW := ok_of (tb_4 (List.mem_of_getElem? (i := 134) rfl)) rfl
theorem wSE_X2_add : Cond.selects yX2_add.cls yX2_add yX2_add ∈ okW := ok_of (tb_4 (List.mem_of_getElem? (i := 135) rfl)) rfl
theorem wCD_X2_add : Cond.code yX2_add cX2_add 4 (some .boolean) ∈ okW := ok_of (tb_4 (List.mem_of_getElem? (i := 136) rfl)) rfl
theorem wK_X2_23 : Cond.constant RX2 23 (-1640531535) ∈ okW := ok_of (tb_4 (List.mem_of_getElem? (i := 137) rfl)) rfl
theorem wM_L_96 : Cond.methodLink RL 96 yX9_tap ∈ okW := ok_of (tb_4 (List.mem_of_getElem? (i := 138) rfl)) rfl
theorem wIM_X9_tap : Cond.instanceMethod yX9_tap ∈ okW := ok_of (tb_4 (List.mem_of_getElem? (i := 139) rfl)) rfl
theorem wSE_X9_tap : Cond.selects yX9_tap.cls yX9_tap yX9_tap ∈ okW := ok_of (tb_4 (List.mem_of_getElem? (i := 140) rfl)) rfl
theorem wCD_X9_tap : Cond.code yX9_tap cX9_tap 5 (some .int) ∈ okW := ok_of (tb_4 (List.mem_of_getElem? (i := 141) rfl)) rfl
theorem wK_X9_242 : Cond.constant RX9 242 (9999999) ∈ okW := ok_of (tb_4 (List.mem_of_getElem? (i := 142) rfl)) rfl
theorem wM_X9_243 : Cond.methodLink RX9 243 yX0_addTap ∈ okW := ok_of (tb_4 (List.mem_of_getElem? (i := 143) rfl)) rfl
theorem wIM_X0_addTap : Cond.instanceMethod yX0_addTap ∈ okW := ok_of (tb_4 (List.mem_of_getElem? (i := 144) rfl)) rfl
theorem wSE_X0_addTap : Cond.selects yX0_addTap.cls yX0_addTap yX0_addTap ∈ okW := ok_of (tb_4 (List.mem_of_getElem? (i := 145) rfl)) rfl
theorem wCD_X0_addTap : Cond.code yX0_addTap cX0_addTap 3 none ∈ okW := ok_of (tb_4 (List.mem_of_getElem? (i := 146) rfl)) rfl
theorem wM_L_100 : Cond.methodLink RL 100 yX9_fits ∈ okW := ok_of (tb_4 (List.mem_of_getElem? (i := 147) rfl)) rfl
theorem wIM_X9_fits : Cond.instanceMethod yX9_fits ∈ okW := ok_of (tb_4 (List.mem_of_getElem? (i := 148) rfl)) rfl
theorem wSE_X9_fits : Cond.selects yX9_fits.cls yX9_fits yX9_fits ∈ okW := ok_of (tb_4 (List.mem_of_getElem? (i := 149) rfl)) rfl
theorem wCD_X9_fits : Cond.code yX9_fits cX9_fits 8 (some .int) ∈ okW := ok_of (tb_4 (List.mem_of_getElem? (i := 150) rfl)) rfl
theorem wK_X9_247 : Cond.constant RX9 247 (99999) ∈ okW := ok_of (tb_4 (List.mem_of_getElem? (i := 151) rfl)) rfl
theorem wM_X9_248 : Cond.methodLink RX9 248 yX1_find ∈ okW := ok_of (tb_4 (List.mem_of_getElem? (i := 152) rfl)) rfl
theorem wIM_X1_find : Cond.instanceMethod yX1_find ∈ okW := ok_of (tb_4 (List.mem_of_getElem? (i := 153) rfl)) rfl
theorem wSE_X1_find : Cond.selects yX1_find.cls yX1_find yX1_find ∈ okW := ok_of (tb_4 (List.mem_of_getElem? (i := 154) rfl)) rfl
theorem wCD_X1_find : Cond.code yX1_find cX1_find 8 (some .int) ∈ okW := ok_of (tb_4 (List.mem_of_getElem? (i := 155) rfl)) rfl
theorem wM_X1_34 : Cond.methodLink RX1 34 yJ9_min_7cf53 ∈ okW := ok_of (tb_4 (List.mem_of_getElem? (i := 156) rfl)) rfl
theorem wM_X1_40 : Cond.methodLink RX1 40 yJ9_max_7cf53 ∈ okW := ok_of (tb_4 (List.mem_of_getElem? (i := 157) rfl)) rfl
theorem wM_X1_62 : Cond.methodLink RX1 62 yX1_fill ∈ okW := ok_of (tb_4 (List.mem_of_getElem? (i := 158) rfl)) rfl
theorem wIM_X1_fill : Cond.instanceMethod yX1_fill ∈ okW := ok_of (tb_4 (List.mem_of_getElem? (i := 160) rfl)) rfl
theorem wCD_X1_fill : Cond.code yX1_fill cX1_fill 10 none ∈ okW := ok_of (tb_4 (List.mem_of_getElem? (i := 161) rfl)) rfl
theorem wM_X1_80 : Cond.methodLink RX1 80 yX6_seeSlice ∈ okW := ok_of (tb_4 (List.mem_of_getElem? (i := 162) rfl)) rfl
theorem wM_X1_86 : Cond.methodLink RX1 86 yX1_place ∈ okW := ok_of (tb_4 (List.mem_of_getElem? (i := 163) rfl)) rfl
theorem wST_X1_place : Cond.static yX1_place ∈ okW := ok_of (tb_4 (List.mem_of_getElem? (i := 164) rfl)) rfl
theorem wCD_X1_place : Cond.code yX1_place cX1_place 3 (some .int) ∈ okW := ok_of (tb_4 (List.mem_of_getElem? (i := 165) rfl)) rfl
theorem wM_X1_90 : Cond.methodLink RX1 90 yX6_told ∈ okW := ok_of (tb_4 (List.mem_of_getElem? (i := 166) rfl)) rfl
theorem wM_X1_72 : Cond.methodLink RX1 72 yX1_unfold ∈ okW := ok_of (tb_4 (List.mem_of_getElem? (i := 167) rfl)) rfl
theorem wIM_X1_unfold : Cond.instanceMethod yX1_unfold ∈ okW := ok_of (tb_4 (List.mem_of_getElem? (i := 169) rfl)) rfl
theorem wCD_X1_unfold : Cond.code yX1_unfold cX1_unfold 4 none ∈ okW := ok_of (tb_4 (List.mem_of_getElem? (i := 170) rfl)) rfl
theorem wM_X1_76 : Cond.methodLink RX1 76 yX1_isHeard ∈ okW := ok_of (tb_4 (List.mem_of_getElem? (i := 171) rfl)) rfl
theorem wIM_X1_isHeard : Cond.instanceMethod yX1_isHeard ∈ okW := ok_of (tb_4 (List.mem_of_getElem? (i := 173) rfl)) rfl
theorem wCD_X1_isHeard : Cond.code yX1_isHeard cX1_isHeard 4 (some .boolean) ∈ okW := ok_of (tb_4 (List.mem_of_getElem? (i := 174) rfl)) rfl
theorem wM_X1_97 : Cond.methodLink RX1 97 yX1_toneAt ∈ okW := ok_of (tb_4 (List.mem_of_getElem? (i := 175) rfl)) rfl
theorem wIM_X1_toneAt : Cond.instanceMethod yX1_toneAt ∈ okW := ok_of (tb_4 (List.mem_of_getElem? (i := 177) rfl)) rfl
theorem wCD_X1_toneAt : Cond.code yX1_toneAt cX1_toneAt 7 (some .int) ∈ okW := ok_of (tb_4 (List.mem_of_getElem? (i := 178) rfl)) rfl
theorem wM_X1_104 : Cond.methodLink RX1 104 yJ9_abs_0f7a4 ∈ okW := ok_of (tb_4 (List.mem_of_getElem? (i := 180) rfl)) rfl
theorem wM_X9_251 : Cond.methodLink RX9 251 yX1_nextPass ∈ okW := ok_of (tb_4 (List.mem_of_getElem? (i := 181) rfl)) rfl
theorem wIM_X1_nextPass : Cond.instanceMethod yX1_nextPass ∈ okW := ok_of (tb_4 (List.mem_of_getElem? (i := 182) rfl)) rfl
theorem wSE_X1_nextPass : Cond.selects yX1_nextPass.cls yX1_nextPass yX1_nextPass ∈ okW := ok_of (tb_4 (List.mem_of_getElem? (i := 183) rfl)) rfl
theorem wCD_X1_nextPass : Cond.code yX1_nextPass cX1_nextPass 8 (some .int) ∈ okW := ok_of (tb_4 (List.mem_of_getElem? (i := 184) rfl)) rfl
theorem wM_X1_111 : Cond.methodLink RX1 111 yX1_countUnlike ∈ okW := ok_of (tb_4 (List.mem_of_getElem? (i := 185) rfl)) rfl
theorem wIM_X1_countUnlike : Cond.instanceMethod yX1_countUnlike ∈ okW := ok_of (tb_4 (List.mem_of_getElem? (i := 187) rfl)) rfl
theorem wCD_X1_countUnlike : Cond.code yX1_countUnlike cX1_countUnlike 6 (some .int) ∈ okW := ok_of (tb_4 (List.mem_of_getElem? (i := 188) rfl)) rfl
theorem wM_X1_115 : Cond.methodLink RX1 115 yX0_thinnedCopy ∈ okW := ok_of (tb_4 (List.mem_of_getElem? (i := 189) rfl)) rfl
theorem wM_X1_122 : Cond.methodLink RX1 122 yX2_clear ∈ okW := ok_of (tb_4 (List.mem_of_getElem? (i := 190) rfl)) rfl
theorem wM_X1_125 : Cond.methodLink RX1 125 yX2_add ∈ okW := ok_of (tb_4 (List.mem_of_getElem? (i := 191) rfl)) rfl
theorem wM_X9_255 : Cond.methodLink RX9 255 yX1_sure ∈ okW := ok_of (tb_4 (List.mem_of_getElem? (i := 192) rfl)) rfl
theorem wIM_X1_sure : Cond.instanceMethod yX1_sure ∈ okW := ok_of (tb_4 (List.mem_of_getElem? (i := 193) rfl)) rfl
theorem wSE_X1_sure : Cond.selects yX1_sure.cls yX1_sure yX1_sure ∈ okW := ok_of (tb_4 (List.mem_of_getElem? (i := 194) rfl)) rfl
theorem wCD_X1_sure : Cond.code yX1_sure cX1_sure 4 (some .int) ∈ okW := ok_of (tb_4 (List.mem_of_getElem? (i := 195) rfl)) rfl
theorem wM_L_105 : Cond.methodLink RL 105 yX9_off ∈ okW := ok_of (tb_4 (List.mem_of_getElem? (i := 196) rfl)) rfl
theorem wIM_X9_off : Cond.instanceMethod yX9_off ∈ okW := ok_of (tb_4 (List.mem_of_getElem? (i := 197) rfl)) rfl
theorem wSE_X9_off : Cond.selects yX9_off.cls yX9_off yX9_off ∈ okW := ok_of (tb_4 (List.mem_of_getElem? (i := 198) rfl)) rfl
theorem wCD_X9_off : Cond.code yX9_off cX9_off 2 (some .int) ∈ okW := ok_of (tb_4 (List.mem_of_getElem? (i := 199) rfl)) rfl
theorem wM_X9_259 : Cond.methodLink RX9 259 yX9_offOf ∈ okW := ok_of (tb_4 (List.mem_of_getElem? (i := 200) rfl)) rfl
theorem wIM_X9_offOf : Cond.instanceMethod yX9_offOf ∈ okW := ok_of (tb_4 (List.mem_of_getElem? (i := 202) rfl)) rfl
theorem wCD_X9_offOf : Cond.code yX9_offOf cX9_offOf 8 (some .int) ∈ okW := ok_of (tb_4 (List.mem_of_getElem? (i := 203) rfl)) rfl
theorem wK_X9_411 : Cond.constantLong RX9 411 (999999999) ∈ okW := ok_of (tb_4 (List.mem_of_getElem? (i := 204) rfl)) rfl
theorem wM_X9_413 : Cond.methodLink RX9 413 yJ9_min_f86c9 ∈ okW := ok_of (tb_4 (List.mem_of_getElem? (i := 205) rfl)) rfl
theorem wST_J9_min_f86c9 : Cond.static yJ9_min_f86c9 ∈ okW := ok_of (tb_4 (List.mem_of_getElem? (i := 206) rfl)) rfl
theorem wCD_J9_min_f86c9 : Cond.code yJ9_min_f86c9 cJ9_min_f86c9 4 (some .long) ∈ okW := ok_of (tb_4 (List.mem_of_getElem? (i := 207) rfl)) rfl
theorem wM_L_109 : Cond.methodLink RL 109 yX9_still ∈ okW := ok_of (tb_4 (List.mem_of_getElem? (i := 208) rfl)) rfl
theorem wIM_X9_still : Cond.instanceMethod yX9_still ∈ okW := ok_of (tb_4 (List.mem_of_getElem? (i := 209) rfl)) rfl
theorem wSE_X9_still : Cond.selects yX9_still.cls yX9_still yX9_still ∈ okW := ok_of (tb_4 (List.mem_of_getElem? (i := 210) rfl)) rfl
theorem wCD_X9_still : Cond.code yX9_still cX9_still 6 (some .int) ∈ okW := ok_of (tb_4 (List.mem_of_getElem? (i := 211) rfl)) rfl
theorem wM_L_113 : Cond.methodLink RL 113 yX9_holes ∈ okW := ok_of (tb_4 (List.mem_of_getElem? (i := 212) rfl)) rfl
theorem wIM_X9_holes : Cond.instanceMethod yX9_holes ∈ okW := ok_of (tb_4 (List.mem_of_getElem? (i := 213) rfl)) rfl
theorem wSE_X9_holes : Cond.selects yX9_holes.cls yX9_holes yX9_holes ∈ okW := ok_of (tb_4 (List.mem_of_getElem? (i := 214) rfl)) rfl
theorem wCD_X9_holes : Cond.code yX9_holes cX9_holes 5 (some .boolean) ∈ okW := ok_of (tb_4 (List.mem_of_getElem? (i := 215) rfl)) rfl
theorem wM_L_117 : Cond.methodLink RL 117 yX9_tube ∈ okW := ok_of (tb_4 (List.mem_of_getElem? (i := 216) rfl)) rfl
theorem wIM_X9_tube : Cond.instanceMethod yX9_tube ∈ okW := ok_of (tb_4 (List.mem_of_getElem? (i := 217) rfl)) rfl
theorem wSE_X9_tube : Cond.selects yX9_tube.cls yX9_tube yX9_tube ∈ okW := ok_of (tb_4 (List.mem_of_getElem? (i := 218) rfl)) rfl
theorem wCD_X9_tube : Cond.code yX9_tube cX9_tube 5 (some .boolean) ∈ okW := ok_of (tb_4 (List.mem_of_getElem? (i := 219) rfl)) rfl
theorem wM_L_121 : Cond.methodLink RL 121 yX9_in ∈ okW := ok_of (tb_4 (List.mem_of_getElem? (i := 220) rfl)) rfl
theorem wIM_X9_in : Cond.instanceMethod yX9_in ∈ okW := ok_of (tb_4 (List.mem_of_getElem? (i := 221) rfl)) rfl
theorem wSE_X9_in : Cond.selects yX9_in.cls yX9_in yX9_in ∈ okW := ok_of (tb_4 (List.mem_of_getElem? (i := 222) rfl)) rfl
theorem wCD_X9_in : Cond.code yX9_in cX9_in 7 (some .int) ∈ okW := ok_of (tb_4 (List.mem_of_getElem? (i := 223) rfl)) rfl
theorem wM_X9_275 : Cond.methodLink RX9 275 yX9_isAir ∈ okW := ok_of (tb_4 (List.mem_of_getElem? (i := 224) rfl)) rfl
theorem wST_X9_isAir : Cond.static yX9_isAir ∈ okW := ok_of (tb_4 (List.mem_of_getElem? (i := 225) rfl)) rfl
theorem wCD_X9_isAir : Cond.code yX9_isAir cX9_isAir 2 (some .boolean) ∈ okW := ok_of (tb_4 (List.mem_of_getElem? (i := 226) rfl)) rfl
theorem wM_X9_279 : Cond.methodLink RX9 279 yX9_driftIn ∈ okW := ok_of (tb_4 (List.mem_of_getElem? (i := 227) rfl)) rfl
theorem wIM_X9_driftIn : Cond.instanceMethod yX9_driftIn ∈ okW := ok_of (tb_4 (List.mem_of_getElem? (i := 229) rfl)) rfl
theorem wCD_X9_driftIn : Cond.code yX9_driftIn cX9_driftIn 3 (some .int) ∈ okW := ok_of (tb_4 (List.mem_of_getElem? (i := 230) rfl)) rfl
theorem wM_X9_416 : Cond.methodLink RX9 416 yX6_seeAir ∈ okW := ok_of (tb_4 (List.mem_of_getElem? (i := 231) rfl)) rfl
theorem wIM_X6_seeAir : Cond.instanceMethod yX6_seeAir ∈ okW := ok_of (tb_4 (List.mem_of_getElem? (i := 232) rfl)) rfl
theorem wSE_X6_seeAir : Cond.selects yX6_seeAir.cls yX6_seeAir yX6_seeAir ∈ okW := ok_of (tb_4 (List.mem_of_getElem? (i := 233) rfl)) rfl
theorem wCD_X6_seeAir : Cond.code yX6_seeAir cX6_seeAir 3 none ∈ okW := ok_of (tb_4 (List.mem_of_getElem? (i := 234) rfl)) rfl
theorem wM_X6_37 : Cond.methodLink RX6 37 yJ7_fill_53178 ∈ okW := ok_of (tb_4 (List.mem_of_getElem? (i := 235) rfl)) rfl
theorem wM_X9_283 : Cond.methodLink RX9 283 yX9_drifted ∈ okW := ok_of (tb_4 (List.mem_of_getElem? (i := 236) rfl)) rfl
theorem wST_X9_drifted : Cond.static yX9_drifted ∈ okW := ok_of (tb_4 (List.mem_of_getElem? (i := 237) rfl)) rfl
theorem wCD_X9_drifted : Cond.code yX9_drifted cX9_drifted 4 (some .int) ∈ okW := ok_of (tb_4 (List.mem_of_getElem? (i := 238) rfl)) rfl
theorem wK_X9_419 : Cond.constantLong RX9 419 (10000) ∈ okW := ok_of (tb_4 (List.mem_of_getElem? (i := 239) rfl)) rfl
theorem wM_X9_421 : Cond.methodLink RX9 421 yJ9_max_f86c9 ∈ okW := ok_of (tb_5 (List.mem_of_getElem? (i := 0) rfl)) rfl
theorem wST_J9_max_f86c9 : Cond.static yJ9_max_f86c9 ∈ okW := ok_of (tb_5 (List.mem_of_getElem? (i := 1) rfl)) rfl
theorem wCD_J9_max_f86c9 : Cond.code yJ9_max_f86c9 cJ9_max_f86c9 4 (some .long) ∈ okW := ok_of (tb_5 (List.mem_of_getElem? (i := 2) rfl)) rfl
theorem wM_X9_286 : Cond.methodLink RX9 286 yX9_beat ∈ okW := ok_of (tb_5 (List.mem_of_getElem? (i := 3) rfl)) rfl
theorem wST_X9_beat : Cond.static yX9_beat ∈ okW := ok_of (tb_5 (List.mem_of_getElem? (i := 4) rfl)) rfl
theorem wCD_X9_beat : Cond.code yX9_beat cX9_beat 5 (some .int) ∈ okW := ok_of (tb_5 (List.mem_of_getElem? (i := 5) rfl)) rfl
theorem wM_X9_424 : Cond.methodLink RX9 424 yX9_air ∈ okW := ok_of (tb_5 (List.mem_of_getElem? (i := 6) rfl)) rfl
theorem wST_X9_air : Cond.static yX9_air ∈ okW := ok_of (tb_5 (List.mem_of_getElem? (i := 7) rfl)) rfl
theorem wCD_X9_air : Cond.code yX9_air cX9_air 1 (some .int) ∈ okW := ok_of (tb_5 (List.mem_of_getElem? (i := 8) rfl)) rfl
theorem wM_X9_290 : Cond.methodLink RX9 290 yX9_stopper ∈ okW := ok_of (tb_5 (List.mem_of_getElem? (i := 9) rfl)) rfl
theorem wST_X9_stopper : Cond.static yX9_stopper ∈ okW := ok_of (tb_5 (List.mem_of_getElem? (i := 10) rfl)) rfl
theorem wCD_X9_stopper : Cond.code yX9_stopper cX9_stopper 5 (some .int) ∈ okW := ok_of (tb_5 (List.mem_of_getElem? (i := 11) rfl)) rfl
theorem wM_X9_427 : Cond.methodLink RX9 427 yX9_shortest ∈ okW := ok_of (tb_5 (List.mem_of_getElem? (i := 12) rfl)) rfl
theorem wST_X9_shortest : Cond.static yX9_shortest ∈ okW := ok_of (tb_5 (List.mem_of_getElem? (i := 13) rfl)) rfl
theorem wCD_X9_shortest : Cond.code yX9_shortest cX9_shortest 2 (some .int) ∈ okW := ok_of (tb_5 (List.mem_of_getElem? (i := 14) rfl)) rfl
theorem wM_L_125 : Cond.methodLink RL 125 yX9_night ∈ okW := ok_of (tb_5 (List.mem_of_getElem? (i := 15) rfl)) rfl
theorem wIM_X9_night : Cond.instanceMethod yX9_night ∈ okW := ok_of (tb_5 (List.mem_of_getElem? (i := 16) rfl)) rfl
theorem wSE_X9_night : Cond.selects yX9_night.cls yX9_night yX9_night ∈ okW := ok_of (tb_5 (List.mem_of_getElem? (i := 17) rfl)) rfl
theorem wCD_X9_night : Cond.code yX9_night cX9_night 3 (some .int) ∈ okW := ok_of (tb_5 (List.mem_of_getElem? (i := 18) rfl)) rfl
theorem wM_L_129 : Cond.methodLink RL 129 yX9_nights ∈ okW := ok_of (tb_5 (List.mem_of_getElem? (i := 19) rfl)) rfl
theorem wIM_X9_nights : Cond.instanceMethod yX9_nights ∈ okW := ok_of (tb_5 (List.mem_of_getElem? (i := 20) rfl)) rfl
theorem wSE_X9_nights : Cond.selects yX9_nights.cls yX9_nights yX9_nights ∈ okW := ok_of (tb_5 (List.mem_of_getElem? (i := 21) rfl)) rfl
theorem wCD_X9_nights : Cond.code yX9_nights cX9_nights 3 (some .int) ∈ okW := ok_of (tb_5 (List.mem_of_getElem? (i := 22) rfl)) rfl
theorem wM_X9_302 : Cond.methodLink RX9 302 yX9_fillLowTones ∈ okW := ok_of (tb_5 (List.mem_of_getElem? (i := 23) rfl)) rfl
theorem wIM_X9_fillLowTones : Cond.instanceMethod yX9_fillLowTones ∈ okW := ok_of (tb_5 (List.mem_of_getElem? (i := 25) rfl)) rfl
theorem wCD_X9_fillLowTones : Cond.code yX9_fillLowTones cX9_fillLowTones 2 none ∈ okW := ok_of (tb_5 (List.mem_of_getElem? (i := 26) rfl)) rfl
theorem wM_X9_305 : Cond.methodLink RX9 305 yX9_apart ∈ okW := ok_of (tb_5 (List.mem_of_getElem? (i := 27) rfl)) rfl
theorem wIM_X9_apart : Cond.instanceMethod yX9_apart ∈ okW := ok_of (tb_5 (List.mem_of_getElem? (i := 29) rfl)) rfl
theorem wCD_X9_apart : Cond.code yX9_apart cX9_apart 3 (some .int) ∈ okW := ok_of (tb_5 (List.mem_of_getElem? (i := 30) rfl)) rfl
theorem wM_X9_311 : Cond.methodLink RX9 311 yX9_suiting ∈ okW := ok_of (tb_5 (List.mem_of_getElem? (i := 31) rfl)) rfl
theorem wIM_X9_suiting : Cond.instanceMethod yX9_suiting ∈ okW := ok_of (tb_5 (List.mem_of_getElem? (i := 33) rfl)) rfl
theorem wCD_X9_suiting : Cond.code yX9_suiting cX9_suiting 5 (some .int) ∈ okW := ok_of (tb_5 (List.mem_of_getElem? (i := 34) rfl)) rfl
theorem wM_X9_308 : Cond.methodLink RX9 308 yX9_worst ∈ okW := ok_of (tb_5 (List.mem_of_getElem? (i := 35) rfl)) rfl
theorem wIM_X9_worst : Cond.instanceMethod yX9_worst ∈ okW := ok_of (tb_5 (List.mem_of_getElem? (i := 37) rfl)) rfl
theorem wCD_X9_worst : Cond.code yX9_worst cX9_worst 8 (some .int) ∈ okW := ok_of (tb_5 (List.mem_of_getElem? (i := 38) rfl)) rfl
theorem wM_X9_430 : Cond.methodLink RX9 430 yX9_beatIn ∈ okW := ok_of (tb_5 (List.mem_of_getElem? (i := 39) rfl)) rfl
theorem wIM_X9_beatIn : Cond.instanceMethod yX9_beatIn ∈ okW := ok_of (tb_5 (List.mem_of_getElem? (i := 41) rfl)) rfl
theorem wCD_X9_beatIn : Cond.code yX9_beatIn cX9_beatIn 5 (some .int) ∈ okW := ok_of (tb_5 (List.mem_of_getElem? (i := 42) rfl)) rfl
theorem wM_X9_314 : Cond.methodLink RX9 314 yX9_together ∈ okW := ok_of (tb_5 (List.mem_of_getElem? (i := 43) rfl)) rfl
theorem wIM_X9_together : Cond.instanceMethod yX9_together ∈ okW := ok_of (tb_5 (List.mem_of_getElem? (i := 45) rfl)) rfl
theorem wCD_X9_together : Cond.code yX9_together cX9_together 11 (some .int) ∈ okW := ok_of (tb_5 (List.mem_of_getElem? (i := 46) rfl)) rfl
theorem wM_X9_434 : Cond.methodLink RX9 434 yJ9_abs_067f4 ∈ okW := ok_of (tb_5 (List.mem_of_getElem? (i := 47) rfl)) rfl
theorem wST_J9_abs_067f4 : Cond.static yJ9_abs_067f4 ∈ okW := ok_of (tb_5 (List.mem_of_getElem? (i := 48) rfl)) rfl
theorem wCD_J9_abs_067f4 : Cond.code yJ9_abs_067f4 cJ9_abs_067f4 2 (some .long) ∈ okW := ok_of (tb_5 (List.mem_of_getElem? (i := 49) rfl)) rfl
theorem wM_L_133 : Cond.methodLink RL 133 yX9_note ∈ okW := ok_of (tb_5 (List.mem_of_getElem? (i := 50) rfl)) rfl
theorem wIM_X9_note : Cond.instanceMethod yX9_note ∈ okW := ok_of (tb_5 (List.mem_of_getElem? (i := 51) rfl)) rfl
theorem wSE_X9_note : Cond.selects yX9_note.cls yX9_note yX9_note ∈ okW := ok_of (tb_5 (List.mem_of_getElem? (i := 52) rfl)) rfl
theorem wCD_X9_note : Cond.code yX9_note cX9_note 3 (some .int) ∈ okW := ok_of (tb_5 (List.mem_of_getElem? (i := 53) rfl)) rfl
theorem wM_L_137 : Cond.methodLink RL 137 yX9_blank ∈ okW := ok_of (tb_5 (List.mem_of_getElem? (i := 54) rfl)) rfl
theorem wIM_X9_blank : Cond.instanceMethod yX9_blank ∈ okW := ok_of (tb_5 (List.mem_of_getElem? (i := 55) rfl)) rfl
theorem wSE_X9_blank : Cond.selects yX9_blank.cls yX9_blank yX9_blank ∈ okW := ok_of (tb_5 (List.mem_of_getElem? (i := 56) rfl)) rfl
theorem wCD_X9_blank : Cond.code yX9_blank cX9_blank 3 (some .int) ∈ okW := ok_of (tb_5 (List.mem_of_getElem? (i := 57) rfl)) rfl
theorem wM_L_141 : Cond.methodLink RL 141 yX9_set ∈ okW := ok_of (tb_5 (List.mem_of_getElem? (i := 58) rfl)) rfl
theorem wIM_X9_set : Cond.instanceMethod yX9_set ∈ okW := ok_of (tb_5 (List.mem_of_getElem? (i := 59) rfl)) rfl
theorem wSE_X9_set : Cond.selects yX9_set.cls yX9_set yX9_set ∈ okW := ok_of (tb_5 (List.mem_of_getElem? (i := 60) rfl)) rfl
theorem wCD_X9_set : Cond.code yX9_set cX9_set 4 (some .int) ∈ okW := ok_of (tb_5 (List.mem_of_getElem? (i := 61) rfl)) rfl
theorem wM_X9_335 : Cond.methodLink RX9 335 yX5_find ∈ okW := ok_of (tb_5 (List.mem_of_getElem? (i := 62) rfl)) rfl
theorem wIM_X5_find : Cond.instanceMethod yX5_find ∈ okW := ok_of (tb_5 (List.mem_of_getElem? (i := 63) rfl)) rfl
theorem wSE_X5_find : Cond.selects yX5_find.cls yX5_find yX5_find ∈ okW := ok_of (tb_5 (List.mem_of_getElem? (i := 64) rfl)) rfl
theorem wCD_X5_find : Cond.code yX5_find cX5_find 3 (some .int) ∈ okW := ok_of (tb_5 (List.mem_of_getElem? (i := 65) rfl)) rfl
theorem wM_X5_21 : Cond.methodLink RX5 21 yJ7_fill_53178 ∈ okW := ok_of (tb_5 (List.mem_of_getElem? (i := 66) rfl)) rfl
theorem wM_X5_34 : Cond.methodLink RX5 34 yX5_goOn ∈ okW := ok_of (tb_5 (List.mem_of_getElem? (i := 67) rfl)) rfl
theorem wIM_X5_goOn : Cond.instanceMethod yX5_goOn ∈ okW := ok_of (tb_5 (List.mem_of_getElem? (i := 69) rfl)) rfl
theorem wCD_X5_goOn : Cond.code yX5_goOn cX5_goOn 8 none ∈ okW := ok_of (tb_5 (List.mem_of_getElem? (i := 70) rfl)) rfl
theorem wM_X5_43 : Cond.methodLink RX5 43 ⟨"java/lang/System", "arraycopy", "(Ljava/lang/Object;ILjava/lang/Object;II)V"⟩ ∈ okW := ok_of (tb_5 (List.mem_of_getElem? (i := 71) rfl)) rfl
theorem wM_X5_58 : Cond.methodLink RX5 58 yX5_ringsTogether ∈ okW := ok_of (tb_5 (List.mem_of_getElem? (i := 72) rfl)) rfl
theorem wIM_X5_ringsTogether : Cond.instanceMethod yX5_ringsTogether ∈ okW := ok_of (tb_5 (List.mem_of_getElem? (i := 74) rfl)) rfl
theorem wCD_X5_ringsTogether : Cond.code yX5_ringsTogether cX5_ringsTogether 5 (some .boolean) ∈ okW := ok_of (tb_5 (List.mem_of_getElem? (i := 75) rfl)) rfl
theorem wM_X5_65 : Cond.methodLink RX5 65 yJ9_abs_0f7a4 ∈ okW := ok_of (tb_5 (List.mem_of_getElem? (i := 76) rfl)) rfl
theorem wM_L_145 : Cond.methodLink RL 145 yX9_down ∈ okW := ok_of (tb_5 (List.mem_of_getElem? (i := 77) rfl)) rfl
theorem wIM_X9_down : Cond.instanceMethod yX9_down ∈ okW := ok_of (tb_5 (List.mem_of_getElem? (i := 78) rfl)) rfl
theorem wSE_X9_down : Cond.selects yX9_down.cls yX9_down yX9_down ∈ okW := ok_of (tb_5 (List.mem_of_getElem? (i := 79) rfl)) rfl
theorem wCD_X9_down : Cond.code yX9_down cX9_down 7 (some .int) ∈ okW := ok_of (tb_5 (List.mem_of_getElem? (i := 80) rfl)) rfl
theorem wM_L_149 : Cond.methodLink RL 149 yX9_enough ∈ okW := ok_of (tb_5 (List.mem_of_getElem? (i := 81) rfl)) rfl
theorem wIM_X9_enough : Cond.instanceMethod yX9_enough ∈ okW := ok_of (tb_5 (List.mem_of_getElem? (i := 82) rfl)) rfl
theorem wSE_X9_enough : Cond.selects yX9_enough.cls yX9_enough yX9_enough ∈ okW := ok_of (tb_5 (List.mem_of_getElem? (i := 83) rfl)) rfl
theorem wCD_X9_enough : Cond.code yX9_enough cX9_enough 9 (some .int) ∈ okW := ok_of (tb_5 (List.mem_of_getElem? (i := 84) rfl)) rfl
theorem wM_X9_341 : Cond.methodLink RX9 341 yX6_sumOf ∈ okW := ok_of (tb_5 (List.mem_of_getElem? (i := 85) rfl)) rfl
theorem wIM_X6_sumOf : Cond.instanceMethod yX6_sumOf ∈ okW := ok_of (tb_5 (List.mem_of_getElem? (i := 86) rfl)) rfl
theorem wSE_X6_sumOf : Cond.selects yX6_sumOf.cls yX6_sumOf yX6_sumOf ∈ okW := ok_of (tb_5 (List.mem_of_getElem? (i := 87) rfl)) rfl
theorem wCD_X6_sumOf : Cond.code yX6_sumOf cX6_sumOf 8 (some .int) ∈ okW := ok_of (tb_5 (List.mem_of_getElem? (i := 88) rfl)) rfl
theorem wM_X9_345 : Cond.methodLink RX9 345 yX9_ratio ∈ okW := ok_of (tb_5 (List.mem_of_getElem? (i := 89) rfl)) rfl
theorem wM_L_153 : Cond.methodLink RL 153 yX9_image ∈ okW := ok_of (tb_5 (List.mem_of_getElem? (i := 90) rfl)) rfl
theorem wIM_X9_image : Cond.instanceMethod yX9_image ∈ okW := ok_of (tb_5 (List.mem_of_getElem? (i := 91) rfl)) rfl
theorem wSE_X9_image : Cond.selects yX9_image.cls yX9_image yX9_image ∈ okW := ok_of (tb_5 (List.mem_of_getElem? (i := 92) rfl)) rfl
theorem wCD_X9_image : Cond.code yX9_image cX9_image 2 (some .boolean) ∈ okW := ok_of (tb_5 (List.mem_of_getElem? (i := 93) rfl)) rfl
theorem wM_X9_351 : Cond.methodLink RX9 351 yX8_copyFrom ∈ okW := ok_of (tb_5 (List.mem_of_getElem? (i := 94) rfl)) rfl
theorem wIM_X8_copyFrom : Cond.instanceMethod yX8_copyFrom ∈ okW := ok_of (tb_5 (List.mem_of_getElem? (i := 95) rfl)) rfl
theorem wSE_X8_copyFrom : Cond.selects yX8_copyFrom.cls yX8_copyFrom yX8_copyFrom ∈ okW := ok_of (tb_5 (List.mem_of_getElem? (i := 96) rfl)) rfl
theorem wCD_X8_copyFrom : Cond.code yX8_copyFrom cX8_copyFrom 3 none ∈ okW := ok_of (tb_5 (List.mem_of_getElem? (i := 97) rfl)) rfl
theorem wM_X8_60 : Cond.methodLink RX8 60 yX0_copyFrom ∈ okW := ok_of (tb_5 (List.mem_of_getElem? (i := 98) rfl)) rfl
theorem wIM_X0_copyFrom : Cond.instanceMethod yX0_copyFrom ∈ okW := ok_of (tb_5 (List.mem_of_getElem? (i := 99) rfl)) rfl
theorem wSE_X0_copyFrom : Cond.selects yX0_copyFrom.cls yX0_copyFrom yX0_copyFrom ∈ okW := ok_of (tb_5 (List.mem_of_getElem? (i := 100) rfl)) rfl
theorem wCD_X0_copyFrom : Cond.code yX0_copyFrom cX0_copyFrom 3 none ∈ okW := ok_of (tb_5 (List.mem_of_getElem? (i := 101) rfl)) rfl
theorem wM_X8_64 : Cond.methodLink RX8 64 yX7_copyFrom ∈ okW := ok_of (tb_5 (List.mem_of_getElem? (i := 102) rfl)) rfl
theorem wM_X8_70 : Cond.methodLink RX8 70 ⟨"java/lang/System", "arraycopy", "(Ljava/lang/Object;ILjava/lang/Object;II)V"⟩ ∈ okW := ok_of (tb_5 (List.mem_of_getElem? (i := 103) rfl)) rfl
theorem wM_L_158 : Cond.methodLink RL 158 yX9_look ∈ okW := ok_of (tb_5 (List.mem_of_getElem? (i := 104) rfl)) rfl
theorem wIM_X9_look : Cond.instanceMethod yX9_look ∈ okW := ok_of (tb_5 (List.mem_of_getElem? (i := 105) rfl)) rfl
theorem wSE_X9_look : Cond.selects yX9_look.cls yX9_look yX9_look ∈ okW := ok_of (tb_5 (List.mem_of_getElem? (i := 106) rfl)) rfl
theorem wCD_X9_look : Cond.code yX9_look cX9_look 2 (some .int) ∈ okW := ok_of (tb_5 (List.mem_of_getElem? (i := 107) rfl)) rfl
theorem wM_X9_354 : Cond.methodLink RX9 354 yX9_countLost ∈ okW := ok_of (tb_5 (List.mem_of_getElem? (i := 108) rfl)) rfl
theorem wIM_X9_countLost : Cond.instanceMethod yX9_countLost ∈ okW := ok_of (tb_5 (List.mem_of_getElem? (i := 110) rfl)) rfl
theorem wCD_X9_countLost : Cond.code yX9_countLost cX9_countLost 3 (some .int) ∈ okW := ok_of (tb_5 (List.mem_of_getElem? (i := 111) rfl)) rfl
theorem wM_X9_357 : Cond.methodLink RX9 357 yX9_countTrue ∈ okW := ok_of (tb_5 (List.mem_of_getElem? (i := 112) rfl)) rfl
theorem wIM_X9_countTrue : Cond.instanceMethod yX9_countTrue ∈ okW := ok_of (tb_5 (List.mem_of_getElem? (i := 114) rfl)) rfl
theorem wCD_X9_countTrue : Cond.code yX9_countTrue cX9_countTrue 3 (some .int) ∈ okW := ok_of (tb_5 (List.mem_of_getElem? (i := 115) rfl)) rfl
theorem wC_L_10 : Cond.classLink RL 10 RX10 ∈ okW := ok_of (tb_5 (List.mem_of_getElem? (i := 116) rfl)) rfl
theorem wIS_X10 : Cond.instantiable RX10 74 ∈ okW := ok_of (tb_5 (List.mem_of_getElem? (i := 117) rfl)) rfl
theorem wM_L_12 : Cond.methodLink RL 12 yX10_init ∈ okW := ok_of (tb_5 (List.mem_of_getElem? (i := 118) rfl)) rfl
theorem wIM_X10_init : Cond.instanceMethod yX10_init ∈ okW := ok_of (tb_5 (List.mem_of_getElem? (i := 119) rfl)) rfl
theorem wCD_X10_init : Cond.code yX10_init cX10_init 1 none ∈ okW := ok_of (tb_5 (List.mem_of_getElem? (i := 120) rfl)) rfl
theorem wM_X10_1 : Cond.methodLink RX10 1 objectInit ∈ okW := ok_of (tb_5 (List.mem_of_getElem? (i := 121) rfl)) rfl
theorem wF_X10_167 : Cond.fieldLink RX10 167 (TX10 0).1 (TX10 0).2.1 (TX10 0).2.2.1 ∈ okW := ok_of (tb_5 (List.mem_of_getElem? (i := 122) rfl)) rfl
theorem wF_X10_170 : Cond.fieldLink RX10 170 (TX10 1).1 (TX10 1).2.1 (TX10 1).2.2.1 ∈ okW := ok_of (tb_5 (List.mem_of_getElem? (i := 123) rfl)) rfl
theorem wF_X10_322 : Cond.fieldLink RX10 322 (TX10 2).1 (TX10 2).2.1 (TX10 2).2.2.1 ∈ okW := ok_of (tb_5 (List.mem_of_getElem? (i := 124) rfl)) rfl
theorem wF_X10_7 : Cond.fieldLink RX10 7 (TX10 3).1 (TX10 3).2.1 (TX10 3).2.2.1 ∈ okW := ok_of (tb_5 (List.mem_of_getElem? (i := 125) rfl)) rfl
theorem wF_X10_13 : Cond.fieldLink RX10 13 (TX10 4).1 (TX10 4).2.1 (TX10 4).2.2.1 ∈ okW := ok_of (tb_5 (List.mem_of_getElem? (i := 126) rfl)) rfl
theorem wF_X10_17 : Cond.fieldLink RX10 17 (TX10 5).1 (TX10 5).2.1 (TX10 5).2.2.1 ∈ okW := ok_of (tb_5 (List.mem_of_getElem? (i := 127) rfl)) rfl
theorem wF_X10_20 : Cond.fieldLink RX10 20 (TX10 6).1 (TX10 6).2.1 (TX10 6).2.2.1 ∈ okW := ok_of (tb_5 (List.mem_of_getElem? (i := 128) rfl)) rfl
theorem wF_X10_23 : Cond.fieldLink RX10 23 (TX10 7).1 (TX10 7).2.1 (TX10 7).2.2.1 ∈ okW := ok_of (tb_5 (List.mem_of_getElem? (i := 129) rfl)) rfl
theorem wF_X10_26 : Cond.fieldLink RX10 26 (TX10 8).1 (TX10 8).2.1 (TX10 8).2.2.1 ∈ okW := ok_of (tb_5 (List.mem_of_getElem? (i := 130) rfl)) rfl
theorem wF_X10_29 : Cond.fieldLink RX10 29 (TX10 9).1 (TX10 9).2.1 (TX10 9).2.2.1 ∈ okW := ok_of (tb_5 (List.mem_of_getElem? (i := 131) rfl)) rfl
theorem wF_X10_32 : Cond.fieldLink RX10 32 (TX10 10).1 (TX10 10).2.1 (TX10 10).2.2.1 ∈ okW := ok_of (tb_5 (List.mem_of_getElem? (i := 132) rfl)) rfl
theorem wF_X10_35 : Cond.fieldLink RX10 35 (TX10 11).1 (TX10 11).2.1 (TX10 11).2.2.1 ∈ okW := ok_of (tb_5 (List.mem_of_getElem? (i := 133) rfl)) rfl
theorem wF_X10_38 : Cond.fieldLink RX10 38 (TX10 12).1 (TX10 12).2.1 (TX10 12).2.2.1 ∈ okW := ok_of (tb_5 (List.mem_of_getElem? (i := 134) rfl)) rfl
theorem wF_X10_41 : Cond.fieldLink RX10 41 (TX10 13).1 (TX10 13).2.1 (TX10 13).2.2.1 ∈ okW := ok_of (tb_5 (List.mem_of_getElem? (i := 135) rfl)) rfl
theorem wF_X10_44 : Cond.fieldLink RX10 44 (TX10 14).1 (TX10 14).2.1 (TX10 14).2.2.1 ∈ okW := ok_of (tb_5 (List.mem_of_getElem? (i := 136) rfl)) rfl
theorem wF_X10_47 : Cond.fieldLink RX10 47 (TX10 15).1 (TX10 15).2.1 (TX10 15).2.2.1 ∈ okW := ok_of (tb_5 (List.mem_of_getElem? (i := 137) rfl)) rfl
theorem wF_X10_50 : Cond.fieldLink RX10 50 (TX10 16).1 (TX10 16).2.1 (TX10 16).2.2.1 ∈ okW := ok_of (tb_5 (List.mem_of_getElem? (i := 138) rfl)) rfl
theorem wF_X10_53 : Cond.fieldLink RX10 53 (TX10 17).1 (TX10 17).2.1 (TX10 17).2.2.1 ∈ okW := ok_of (tb_5 (List.mem_of_getElem? (i := 139) rfl)) rfl
theorem wF_X10_185 : Cond.fieldLink RX10 185 (TX10 18).1 (TX10 18).2.1 (TX10 18).2.2.1 ∈ okW := ok_of (tb_5 (List.mem_of_getElem? (i := 140) rfl)) rfl
theorem wF_X10_192 : Cond.fieldLink RX10 192 (TX10 19).1 (TX10 19).2.1 (TX10 19).2.2.1 ∈ okW := ok_of (tb_5 (List.mem_of_getElem? (i := 141) rfl)) rfl
theorem wF_X10_199 : Cond.fieldLink RX10 199 (TX10 20).1 (TX10 20).2.1 (TX10 20).2.2.1 ∈ okW := ok_of (tb_5 (List.mem_of_getElem? (i := 142) rfl)) rfl
theorem wF_X10_202 : Cond.fieldLink RX10 202 (TX10 21).1 (TX10 21).2.1 (TX10 21).2.2.1 ∈ okW := ok_of (tb_5 (List.mem_of_getElem? (i := 143) rfl)) rfl
theorem wF_X10_205 : Cond.fieldLink RX10 205 (TX10 22).1 (TX10 22).2.1 (TX10 22).2.2.1 ∈ okW := ok_of (tb_5 (List.mem_of_getElem? (i := 144) rfl)) rfl
theorem wF_X10_56 : Cond.fieldLink RX10 56 (TX10 23).1 (TX10 23).2.1 (TX10 23).2.2.1 ∈ okW := ok_of (tb_5 (List.mem_of_getElem? (i := 145) rfl)) rfl
theorem wF_X10_59 : Cond.fieldLink RX10 59 (TX10 24).1 (TX10 24).2.1 (TX10 24).2.2.1 ∈ okW := ok_of (tb_5 (List.mem_of_getElem? (i := 146) rfl)) rfl
theorem wF_X10_62 : Cond.fieldLink RX10 62 (TX10 25).1 (TX10 25).2.1 (TX10 25).2.2.1 ∈ okW := ok_of (tb_5 (List.mem_of_getElem? (i := 147) rfl)) rfl
theorem wF_X10_65 : Cond.fieldLink RX10 65 (TX10 26).1 (TX10 26).2.1 (TX10 26).2.2.1 ∈ okW := ok_of (tb_5 (List.mem_of_getElem? (i := 148) rfl)) rfl
theorem wF_X10_68 : Cond.fieldLink RX10 68 (TX10 27).1 (TX10 27).2.1 (TX10 27).2.2.1 ∈ okW := ok_of (tb_5 (List.mem_of_getElem? (i := 149) rfl)) rfl
theorem wF_X10_71 : Cond.fieldLink RX10 71 (TX10 28).1 (TX10 28).2.1 (TX10 28).2.2.1 ∈ okW := ok_of (tb_5 (List.mem_of_getElem? (i := 150) rfl)) rfl
theorem wF_X10_74 : Cond.fieldLink RX10 74 (TX10 29).1 (TX10 29).2.1 (TX10 29).2.2.1 ∈ okW := ok_of (tb_5 (List.mem_of_getElem? (i := 151) rfl)) rfl
theorem wF_X10_77 : Cond.fieldLink RX10 77 (TX10 30).1 (TX10 30).2.1 (TX10 30).2.2.1 ∈ okW := ok_of (tb_5 (List.mem_of_getElem? (i := 152) rfl)) rfl
theorem wF_X10_80 : Cond.fieldLink RX10 80 (TX10 31).1 (TX10 31).2.1 (TX10 31).2.2.1 ∈ okW := ok_of (tb_5 (List.mem_of_getElem? (i := 153) rfl)) rfl
theorem wF_X10_83 : Cond.fieldLink RX10 83 (TX10 32).1 (TX10 32).2.1 (TX10 32).2.2.1 ∈ okW := ok_of (tb_5 (List.mem_of_getElem? (i := 154) rfl)) rfl
theorem wF_X10_86 : Cond.fieldLink RX10 86 (TX10 33).1 (TX10 33).2.1 (TX10 33).2.2.1 ∈ okW := ok_of (tb_5 (List.mem_of_getElem? (i := 155) rfl)) rfl
theorem wF_X10_231 : Cond.fieldLink RX10 231 (TX10 34).1 (TX10 34).2.1 (TX10 34).2.2.1 ∈ okW := ok_of (tb_5 (List.mem_of_getElem? (i := 156) rfl)) rfl
theorem wF_X10_228 : Cond.fieldLink RX10 228 (TX10 35).1 (TX10 35).2.1 (TX10 35).2.2.1 ∈ okW := ok_of (tb_5 (List.mem_of_getElem? (i := 157) rfl)) rfl
theorem wF_X10_261 : Cond.fieldLink RX10 261 (TX10 36).1 (TX10 36).2.1 (TX10 36).2.2.1 ∈ okW := ok_of (tb_5 (List.mem_of_getElem? (i := 158) rfl)) rfl
theorem wF_X10_89 : Cond.fieldLink RX10 89 (TX10 37).1 (TX10 37).2.1 (TX10 37).2.2.1 ∈ okW := ok_of (tb_5 (List.mem_of_getElem? (i := 159) rfl)) rfl
theorem wF_X10_258 : Cond.fieldLink RX10 258 (TX10 38).1 (TX10 38).2.1 (TX10 38).2.2.1 ∈ okW := ok_of (tb_5 (List.mem_of_getElem? (i := 160) rfl)) rfl
theorem wF_X10_222 : Cond.fieldLink RX10 222 (TX10 39).1 (TX10 39).2.1 (TX10 39).2.2.1 ∈ okW := ok_of (tb_5 (List.mem_of_getElem? (i := 161) rfl)) rfl
theorem wF_X10_225 : Cond.fieldLink RX10 225 (TX10 40).1 (TX10 40).2.1 (TX10 40).2.2.1 ∈ okW := ok_of (tb_5 (List.mem_of_getElem? (i := 162) rfl)) rfl
theorem wF_X10_292 : Cond.fieldLink RX10 292 (TX10 41).1 (TX10 41).2.1 (TX10 41).2.2.1 ∈ okW := ok_of (tb_5 (List.mem_of_getElem? (i := 163) rfl)) rfl
theorem wF_X10_92 : Cond.fieldLink RX10 92 (TX10 42).1 (TX10 42).2.1 (TX10 42).2.2.1 ∈ okW := ok_of (tb_5 (List.mem_of_getElem? (i := 164) rfl)) rfl
theorem wF_X10_95 : Cond.fieldLink RX10 95 (TX10 43).1 (TX10 43).2.1 (TX10 43).2.2.1 ∈ okW := ok_of (tb_5 (List.mem_of_getElem? (i := 165) rfl)) rfl
theorem wF_X10_98 : Cond.fieldLink RX10 98 (TX10 44).1 (TX10 44).2.1 (TX10 44).2.2.1 ∈ okW := ok_of (tb_5 (List.mem_of_getElem? (i := 166) rfl)) rfl
theorem wF_X10_101 : Cond.fieldLink RX10 101 (TX10 45).1 (TX10 45).2.1 (TX10 45).2.2.1 ∈ okW := ok_of (tb_5 (List.mem_of_getElem? (i := 167) rfl)) rfl
theorem wF_X10_104 : Cond.fieldLink RX10 104 (TX10 46).1 (TX10 46).2.1 (TX10 46).2.2.1 ∈ okW := ok_of (tb_5 (List.mem_of_getElem? (i := 168) rfl)) rfl
theorem wF_X10_107 : Cond.fieldLink RX10 107 (TX10 47).1 (TX10 47).2.1 (TX10 47).2.2.1 ∈ okW := ok_of (tb_5 (List.mem_of_getElem? (i := 169) rfl)) rfl
theorem wF_X10_110 : Cond.fieldLink RX10 110 (TX10 48).1 (TX10 48).2.1 (TX10 48).2.2.1 ∈ okW := ok_of (tb_5 (List.mem_of_getElem? (i := 170) rfl)) rfl
theorem wF_X10_113 : Cond.fieldLink RX10 113 (TX10 49).1 (TX10 49).2.1 (TX10 49).2.2.1 ∈ okW := ok_of (tb_5 (List.mem_of_getElem? (i := 171) rfl)) rfl
theorem wF_X10_116 : Cond.fieldLink RX10 116 (TX10 50).1 (TX10 50).2.1 (TX10 50).2.2.1 ∈ okW := ok_of (tb_5 (List.mem_of_getElem? (i := 172) rfl)) rfl
theorem wF_X10_119 : Cond.fieldLink RX10 119 (TX10 51).1 (TX10 51).2.1 (TX10 51).2.2.1 ∈ okW := ok_of (tb_5 (List.mem_of_getElem? (i := 173) rfl)) rfl
theorem wF_X10_122 : Cond.fieldLink RX10 122 (TX10 52).1 (TX10 52).2.1 (TX10 52).2.2.1 ∈ okW := ok_of (tb_5 (List.mem_of_getElem? (i := 174) rfl)) rfl
theorem wF_X10_125 : Cond.fieldLink RX10 125 (TX10 53).1 (TX10 53).2.1 (TX10 53).2.2.1 ∈ okW := ok_of (tb_5 (List.mem_of_getElem? (i := 175) rfl)) rfl
theorem wF_X10_128 : Cond.fieldLink RX10 128 (TX10 54).1 (TX10 54).2.1 (TX10 54).2.2.1 ∈ okW := ok_of (tb_5 (List.mem_of_getElem? (i := 176) rfl)) rfl
theorem wF_X10_131 : Cond.fieldLink RX10 131 (TX10 55).1 (TX10 55).2.1 (TX10 55).2.2.1 ∈ okW := ok_of (tb_5 (List.mem_of_getElem? (i := 177) rfl)) rfl
theorem wF_X10_378 : Cond.fieldLink RX10 378 (TX10 56).1 (TX10 56).2.1 (TX10 56).2.2.1 ∈ okW := ok_of (tb_5 (List.mem_of_getElem? (i := 178) rfl)) rfl
theorem wF_X10_134 : Cond.fieldLink RX10 134 (TX10 57).1 (TX10 57).2.1 (TX10 57).2.2.1 ∈ okW := ok_of (tb_5 (List.mem_of_getElem? (i := 179) rfl)) rfl
theorem wF_X10_137 : Cond.fieldLink RX10 137 (TX10 58).1 (TX10 58).2.1 (TX10 58).2.2.1 ∈ okW := ok_of (tb_5 (List.mem_of_getElem? (i := 180) rfl)) rfl
theorem wF_X10_438 : Cond.fieldLink RX10 438 (TX10 59).1 (TX10 59).2.1 (TX10 59).2.2.1 ∈ okW := ok_of (tb_5 (List.mem_of_getElem? (i := 181) rfl)) rfl
theorem wF_X10_140 : Cond.fieldLink RX10 140 (TX10 60).1 (TX10 60).2.1 (TX10 60).2.2.1 ∈ okW := ok_of (tb_5 (List.mem_of_getElem? (i := 182) rfl)) rfl
theorem wF_X10_143 : Cond.fieldLink RX10 143 (TX10 61).1 (TX10 61).2.1 (TX10 61).2.2.1 ∈ okW := ok_of (tb_5 (List.mem_of_getElem? (i := 183) rfl)) rfl
theorem wF_X10_455 : Cond.fieldLink RX10 455 (TX10 62).1 (TX10 62).2.1 (TX10 62).2.2.1 ∈ okW := ok_of (tb_5 (List.mem_of_getElem? (i := 184) rfl)) rfl
theorem wF_X10_146 : Cond.fieldLink RX10 146 (TX10 63).1 (TX10 63).2.1 (TX10 63).2.2.1 ∈ okW := ok_of (tb_5 (List.mem_of_getElem? (i := 185) rfl)) rfl
theorem wF_X10_149 : Cond.fieldLink RX10 149 (TX10 64).1 (TX10 64).2.1 (TX10 64).2.2.1 ∈ okW := ok_of (tb_5 (List.mem_of_getElem? (i := 186) rfl)) rfl
theorem wF_X10_458 : Cond.fieldLink RX10 458 (TX10 65).1 (TX10 65).2.1 (TX10 65).2.2.1 ∈ okW := ok_of (tb_5 (List.mem_of_getElem? (i := 187) rfl)) rfl
theorem wF_X10_152 : Cond.fieldLink RX10 152 (TX10 66).1 (TX10 66).2.1 (TX10 66).2.2.1 ∈ okW := ok_of (tb_5 (List.mem_of_getElem? (i := 188) rfl)) rfl
theorem wF_X10_155 : Cond.fieldLink RX10 155 (TX10 67).1 (TX10 67).2.1 (TX10 67).2.2.1 ∈ okW := ok_of (tb_5 (List.mem_of_getElem? (i := 189) rfl)) rfl
theorem wF_X10_158 : Cond.fieldLink RX10 158 (TX10 68).1 (TX10 68).2.1 (TX10 68).2.2.1 ∈ okW := ok_of (tb_5 (List.mem_of_getElem? (i := 190) rfl)) rfl
theorem wF_X10_161 : Cond.fieldLink RX10 161 (TX10 69).1 (TX10 69).2.1 (TX10 69).2.2.1 ∈ okW := ok_of (tb_5 (List.mem_of_getElem? (i := 191) rfl)) rfl
theorem wF_X10_476 : Cond.fieldLink RX10 476 (TX10 70).1 (TX10 70).2.1 (TX10 70).2.2.1 ∈ okW := ok_of (tb_5 (List.mem_of_getElem? (i := 192) rfl)) rfl
theorem wF_X10_470 : Cond.fieldLink RX10 470 (TX10 71).1 (TX10 71).2.1 (TX10 71).2.2.1 ∈ okW := ok_of (tb_5 (List.mem_of_getElem? (i := 193) rfl)) rfl
theorem wF_X10_467 : Cond.fieldLink RX10 467 (TX10 72).1 (TX10 72).2.1 (TX10 72).2.2.1 ∈ okW := ok_of (tb_5 (List.mem_of_getElem? (i := 194) rfl)) rfl
theorem wF_X10_164 : Cond.fieldLink RX10 164 (TX10 73).1 (TX10 73).2.1 (TX10 73).2.2.1 ∈ okW := ok_of (tb_5 (List.mem_of_getElem? (i := 195) rfl)) rfl
theorem wLY_10_0 : u_lay RX10 TX10 0 ∈ okW := ok_of (tb_5 (List.mem_of_getElem? (i := 196) rfl)) rfl
theorem wLY_10_1 : u_lay RX10 TX10 1 ∈ okW := ok_of (tb_5 (List.mem_of_getElem? (i := 198) rfl)) rfl
theorem wLY_10_2 : u_lay RX10 TX10 2 ∈ okW := ok_of (tb_5 (List.mem_of_getElem? (i := 200) rfl)) rfl
theorem wLY_10_3 : u_lay RX10 TX10 3 ∈ okW := ok_of (tb_5 (List.mem_of_getElem? (i := 202) rfl)) rfl
theorem wLY_10_4 : u_lay RX10 TX10 4 ∈ okW := ok_of (tb_5 (List.mem_of_getElem? (i := 204) rfl)) rfl
theorem wLY_10_5 : u_lay RX10 TX10 5 ∈ okW := ok_of (tb_5 (List.mem_of_getElem? (i := 206) rfl)) rfl
theorem wLY_10_6 : u_lay RX10 TX10 6 ∈ okW := ok_of (tb_5 (List.mem_of_getElem? (i := 208) rfl)) rfl
theorem wLY_10_7 : u_lay RX10 TX10 7 ∈ okW := ok_of (tb_5 (List.mem_of_getElem? (i := 210) rfl)) rfl
theorem wLY_10_8 : u_lay RX10 TX10 8 ∈ okW := ok_of (tb_5 (List.mem_of_getElem? (i := 212) rfl)) rfl
theorem wLY_10_9 : u_lay RX10 TX10 9 ∈ okW := ok_of (tb_5 (List.mem_of_getElem? (i := 214) rfl)) rfl
theorem wLY_10_10 : u_lay RX10 TX10 10 ∈ okW := ok_of (tb_5 (List.mem_of_getElem? (i := 216) rfl)) rfl
theorem wLY_10_11 : u_lay RX10 TX10 11 ∈ okW := ok_of (tb_5 (List.mem_of_getElem? (i := 218) rfl)) rfl
theorem wLY_10_12 : u_lay RX10 TX10 12 ∈ okW := ok_of (tb_5 (List.mem_of_getElem? (i := 220) rfl)) rfl
theorem wLY_10_13 : u_lay RX10 TX10 13 ∈ okW := ok_of (tb_5 (List.mem_of_getElem? (i := 222) rfl)) rfl
theorem wLY_10_14 : u_lay RX10 TX10 14 ∈ okW := ok_of (tb_5 (List.mem_of_getElem? (i := 224) rfl)) rfl
theorem wLY_10_15 : u_lay RX10 TX10 15 ∈ okW := ok_of (tb_5 (List.mem_of_getElem? (i := 226) rfl)) rfl
theorem wLY_10_16 : u_lay RX10 TX10 16 ∈ okW := ok_of (tb_5 (List.mem_of_getElem? (i := 228) rfl)) rfl
theorem wLY_10_17 : u_lay RX10 TX10 17 ∈ okW := ok_of (tb_5 (List.mem_of_getElem? (i := 230) rfl)) rfl
theorem wLY_10_18 : u_lay RX10 TX10 18 ∈ okW := ok_of (tb_5 (List.mem_of_getElem? (i := 232) rfl)) rfl
theorem wLY_10_19 : u_lay RX10 TX10 19 ∈ okW := ok_of (tb_5 (List.mem_of_getElem? (i := 234) rfl)) rfl
theorem wLY_10_20 : u_lay RX10 TX10 20 ∈ okW := ok_of (tb_5 (List.mem_of_getElem? (i := 236) rfl)) rfl
theorem wLY_10_21 : u_lay RX10 TX10 21 ∈ okW := ok_of (tb_5 (List.mem_of_getElem? (i := 238) rfl)) rfl
theorem wLY_10_22 : u_lay RX10 TX10 22 ∈ okW := ok_of (tb_6 (List.mem_of_getElem? (i := 0) rfl)) rfl
theorem wLY_10_23 : u_lay RX10 TX10 23 ∈ okW := ok_of (tb_6 (List.mem_of_getElem? (i := 2) rfl)) rfl
theorem wLY_10_24 : u_lay RX10 TX10 24 ∈ okW := ok_of (tb_6 (List.mem_of_getElem? (i := 4) rfl)) rfl
theorem wLY_10_25 : u_lay RX10 TX10 25 ∈ okW := ok_of (tb_6 (List.mem_of_getElem? (i := 6) rfl)) rfl
theorem wLY_10_26 : u_lay RX10 TX10 26 ∈ okW := ok_of (tb_6 (List.mem_of_getElem? (i := 8) rfl)) rfl
theorem wLY_10_27 : u_lay RX10 TX10 27 ∈ okW := ok_of (tb_6 (List.mem_of_getElem? (i := 10) rfl)) rfl
theorem wLY_10_28 : u_lay RX10 TX10 28 ∈ okW := ok_of (tb_6 (List.mem_of_getElem? (i := 12) rfl)) rfl
theorem wLY_10_29 : u_lay RX10 TX10 29 ∈ okW := ok_of (tb_6 (List.mem_of_getElem? (i := 14) rfl)) rfl
theorem wLY_10_30 : u_lay RX10 TX10 30 ∈ okW := ok_of (tb_6 (List.mem_of_getElem? (i := 16) rfl)) rfl
theorem wLY_10_31 : u_lay RX10 TX10 31 ∈ okW := ok_of (tb_6 (List.mem_of_getElem? (i := 18) rfl)) rfl
theorem wLY_10_32 : u_lay RX10 TX10 32 ∈ okW := ok_of (tb_6 (List.mem_of_getElem? (i := 20) rfl)) rfl
theorem wLY_10_33 : u_lay RX10 TX10 33 ∈ okW := ok_of (tb_6 (List.mem_of_getElem? (i := 22) rfl)) rfl
theorem wLY_10_34 : u_lay RX10 TX10 34 ∈ okW := ok_of (tb_6 (List.mem_of_getElem? (i := 24) rfl)) rfl
theorem wLY_10_35 : u_lay RX10 TX10 35 ∈ okW := ok_of (tb_6 (List.mem_of_getElem? (i := 26) rfl)) rfl
theorem wLY_10_36 : u_lay RX10 TX10 36 ∈ okW := ok_of (tb_6 (List.mem_of_getElem? (i := 28) rfl)) rfl
theorem wLY_10_37 : u_lay RX10 TX10 37 ∈ okW := ok_of (tb_6 (List.mem_of_getElem? (i := 30) rfl)) rfl
theorem wLY_10_38 : u_lay RX10 TX10 38 ∈ okW := ok_of (tb_6 (List.mem_of_getElem? (i := 32) rfl)) rfl
theorem wLY_10_39 : u_lay RX10 TX10 39 ∈ okW := ok_of (tb_6 (List.mem_of_getElem? (i := 34) rfl)) rfl
theorem wLY_10_40 : u_lay RX10 TX10 40 ∈ okW := ok_of (tb_6 (List.mem_of_getElem? (i := 36) rfl)) rfl
theorem wLY_10_41 : u_lay RX10 TX10 41 ∈ okW := ok_of (tb_6 (List.mem_of_getElem? (i := 38) rfl)) rfl
theorem wLY_10_42 : u_lay RX10 TX10 42 ∈ okW := ok_of (tb_6 (List.mem_of_getElem? (i := 40) rfl)) rfl
theorem wLY_10_43 : u_lay RX10 TX10 43 ∈ okW := ok_of (tb_6 (List.mem_of_getElem? (i := 42) rfl)) rfl
theorem wLY_10_44 : u_lay RX10 TX10 44 ∈ okW := ok_of (tb_6 (List.mem_of_getElem? (i := 44) rfl)) rfl
theorem wLY_10_45 : u_lay RX10 TX10 45 ∈ okW := ok_of (tb_6 (List.mem_of_getElem? (i := 46) rfl)) rfl
theorem wLY_10_46 : u_lay RX10 TX10 46 ∈ okW := ok_of (tb_6 (List.mem_of_getElem? (i := 48) rfl)) rfl
theorem wLY_10_47 : u_lay RX10 TX10 47 ∈ okW := ok_of (tb_6 (List.mem_of_getElem? (i := 50) rfl)) rfl
theorem wLY_10_48 : u_lay RX10 TX10 48 ∈ okW := ok_of (tb_6 (List.mem_of_getElem? (i := 52) rfl)) rfl
theorem wLY_10_49 : u_lay RX10 TX10 49 ∈ okW := ok_of (tb_6 (List.mem_of_getElem? (i := 54) rfl)) rfl
theorem wLY_10_50 : u_lay RX10 TX10 50 ∈ okW := ok_of (tb_6 (List.mem_of_getElem? (i := 56) rfl)) rfl
theorem wLY_10_51 : u_lay RX10 TX10 51 ∈ okW := ok_of (tb_6 (List.mem_of_getElem? (i := 58) rfl)) rfl
theorem wLY_10_52 : u_lay RX10 TX10 52 ∈ okW := ok_of (tb_6 (List.mem_of_getElem? (i := 60) rfl)) rfl
theorem wLY_10_53 : u_lay RX10 TX10 53 ∈ okW := ok_of (tb_6 (List.mem_of_getElem? (i := 62) rfl)) rfl
theorem wLY_10_54 : u_lay RX10 TX10 54 ∈ okW := ok_of (tb_6 (List.mem_of_getElem? (i := 64) rfl)) rfl
theorem wLY_10_55 : u_lay RX10 TX10 55 ∈ okW := ok_of (tb_6 (List.mem_of_getElem? (i := 66) rfl)) rfl
theorem wLY_10_56 : u_lay RX10 TX10 56 ∈ okW := ok_of (tb_6 (List.mem_of_getElem? (i := 68) rfl)) rfl
theorem wLY_10_57 : u_lay RX10 TX10 57 ∈ okW := ok_of (tb_6 (List.mem_of_getElem? (i := 70) rfl)) rfl
theorem wLY_10_58 : u_lay RX10 TX10 58 ∈ okW := ok_of (tb_6 (List.mem_of_getElem? (i := 72) rfl)) rfl
theorem wLY_10_59 : u_lay RX10 TX10 59 ∈ okW := ok_of (tb_6 (List.mem_of_getElem? (i := 74) rfl)) rfl
theorem wLY_10_60 : u_lay RX10 TX10 60 ∈ okW := ok_of (tb_6 (List.mem_of_getElem? (i := 76) rfl)) rfl
theorem wLY_10_61 : u_lay RX10 TX10 61 ∈ okW := ok_of (tb_6 (List.mem_of_getElem? (i := 78) rfl)) rfl
theorem wLY_10_62 : u_lay RX10 TX10 62 ∈ okW := ok_of (tb_6 (List.mem_of_getElem? (i := 80) rfl)) rfl
theorem wLY_10_63 : u_lay RX10 TX10 63 ∈ okW := ok_of (tb_6 (List.mem_of_getElem? (i := 82) rfl)) rfl
theorem wLY_10_64 : u_lay RX10 TX10 64 ∈ okW := ok_of (tb_6 (List.mem_of_getElem? (i := 84) rfl)) rfl
theorem wLY_10_65 : u_lay RX10 TX10 65 ∈ okW := ok_of (tb_6 (List.mem_of_getElem? (i := 86) rfl)) rfl
theorem wLY_10_66 : u_lay RX10 TX10 66 ∈ okW := ok_of (tb_6 (List.mem_of_getElem? (i := 88) rfl)) rfl
theorem wLY_10_67 : u_lay RX10 TX10 67 ∈ okW := ok_of (tb_6 (List.mem_of_getElem? (i := 90) rfl)) rfl
theorem wLY_10_68 : u_lay RX10 TX10 68 ∈ okW := ok_of (tb_6 (List.mem_of_getElem? (i := 92) rfl)) rfl
theorem wLY_10_69 : u_lay RX10 TX10 69 ∈ okW := ok_of (tb_6 (List.mem_of_getElem? (i := 94) rfl)) rfl
theorem wLY_10_70 : u_lay RX10 TX10 70 ∈ okW := ok_of (tb_6 (List.mem_of_getElem? (i := 96) rfl)) rfl
theorem wLY_10_71 : u_lay RX10 TX10 71 ∈ okW := ok_of (tb_6 (List.mem_of_getElem? (i := 98) rfl)) rfl
theorem wLY_10_72 : u_lay RX10 TX10 72 ∈ okW := ok_of (tb_6 (List.mem_of_getElem? (i := 100) rfl)) rfl
theorem wLY_10_73 : u_lay RX10 TX10 73 ∈ okW := ok_of (tb_6 (List.mem_of_getElem? (i := 102) rfl)) rfl
theorem wM_L_17 : Cond.methodLink RL 17 yX10_bar ∈ okW := ok_of (tb_6 (List.mem_of_getElem? (i := 105) rfl)) rfl
theorem wIM_X10_bar : Cond.instanceMethod yX10_bar ∈ okW := ok_of (tb_6 (List.mem_of_getElem? (i := 106) rfl)) rfl
theorem wSE_X10_bar : Cond.selects yX10_bar.cls yX10_bar yX10_bar ∈ okW := ok_of (tb_6 (List.mem_of_getElem? (i := 107) rfl)) rfl
theorem wCD_X10_bar : Cond.code yX10_bar cX10_bar 3 (some .int) ∈ okW := ok_of (tb_6 (List.mem_of_getElem? (i := 108) rfl)) rfl
theorem wM_X10_177 : Cond.methodLink RX10 177 yX10_isIn ∈ okW := ok_of (tb_6 (List.mem_of_getElem? (i := 109) rfl)) rfl
theorem wIM_X10_isIn : Cond.instanceMethod yX10_isIn ∈ okW := ok_of (tb_6 (List.mem_of_getElem? (i := 111) rfl)) rfl
theorem wCD_X10_isIn : Cond.code yX10_isIn cX10_isIn 4 (some .boolean) ∈ okW := ok_of (tb_6 (List.mem_of_getElem? (i := 112) rfl)) rfl
theorem wM_L_22 : Cond.methodLink RL 22 yX10_slice ∈ okW := ok_of (tb_6 (List.mem_of_getElem? (i := 113) rfl)) rfl
theorem wIM_X10_slice : Cond.instanceMethod yX10_slice ∈ okW := ok_of (tb_6 (List.mem_of_getElem? (i := 114) rfl)) rfl
theorem wSE_X10_slice : Cond.selects yX10_slice.cls yX10_slice yX10_slice ∈ okW := ok_of (tb_6 (List.mem_of_getElem? (i := 115) rfl)) rfl
theorem wCD_X10_slice : Cond.code yX10_slice cX10_slice 6 (some .boolean) ∈ okW := ok_of (tb_6 (List.mem_of_getElem? (i := 116) rfl)) rfl
theorem wM_X10_181 : Cond.methodLink RX10 181 yX10_isSlice ∈ okW := ok_of (tb_6 (List.mem_of_getElem? (i := 117) rfl)) rfl
theorem wIM_X10_isSlice : Cond.instanceMethod yX10_isSlice ∈ okW := ok_of (tb_6 (List.mem_of_getElem? (i := 119) rfl)) rfl
theorem wCD_X10_isSlice : Cond.code yX10_isSlice cX10_isSlice 3 (some .boolean) ∈ okW := ok_of (tb_6 (List.mem_of_getElem? (i := 120) rfl)) rfl
theorem wM_X10_173 : Cond.methodLink RX10 173 yX10_isBar ∈ okW := ok_of (tb_6 (List.mem_of_getElem? (i := 121) rfl)) rfl
theorem wIM_X10_isBar : Cond.instanceMethod yX10_isBar ∈ okW := ok_of (tb_6 (List.mem_of_getElem? (i := 123) rfl)) rfl
theorem wCD_X10_isBar : Cond.code yX10_isBar cX10_isBar 2 (some .boolean) ∈ okW := ok_of (tb_6 (List.mem_of_getElem? (i := 124) rfl)) rfl
theorem wM_L_27 : Cond.methodLink RL 27 yX10_wax ∈ okW := ok_of (tb_6 (List.mem_of_getElem? (i := 125) rfl)) rfl
theorem wIM_X10_wax : Cond.instanceMethod yX10_wax ∈ okW := ok_of (tb_6 (List.mem_of_getElem? (i := 126) rfl)) rfl
theorem wSE_X10_wax : Cond.selects yX10_wax.cls yX10_wax yX10_wax ∈ okW := ok_of (tb_6 (List.mem_of_getElem? (i := 127) rfl)) rfl
theorem wCD_X10_wax : Cond.code yX10_wax cX10_wax 4 (some .boolean) ∈ okW := ok_of (tb_6 (List.mem_of_getElem? (i := 128) rfl)) rfl
theorem wM_L_32 : Cond.methodLink RL 32 yX10_of ∈ okW := ok_of (tb_6 (List.mem_of_getElem? (i := 129) rfl)) rfl
theorem wIM_X10_of : Cond.instanceMethod yX10_of ∈ okW := ok_of (tb_6 (List.mem_of_getElem? (i := 130) rfl)) rfl
theorem wSE_X10_of : Cond.selects yX10_of.cls yX10_of yX10_of ∈ okW := ok_of (tb_6 (List.mem_of_getElem? (i := 131) rfl)) rfl
theorem wCD_X10_of : Cond.code yX10_of cX10_of 5 (some .int) ∈ okW := ok_of (tb_6 (List.mem_of_getElem? (i := 132) rfl)) rfl
theorem wM_L_37 : Cond.methodLink RL 37 yX10_feed ∈ okW := ok_of (tb_6 (List.mem_of_getElem? (i := 133) rfl)) rfl
theorem wIM_X10_feed : Cond.instanceMethod yX10_feed ∈ okW := ok_of (tb_6 (List.mem_of_getElem? (i := 134) rfl)) rfl
theorem wSE_X10_feed : Cond.selects yX10_feed.cls yX10_feed yX10_feed ∈ okW := ok_of (tb_6 (List.mem_of_getElem? (i := 135) rfl)) rfl
theorem wCD_X10_feed : Cond.code yX10_feed cX10_feed 6 (some .int) ∈ okW := ok_of (tb_6 (List.mem_of_getElem? (i := 136) rfl)) rfl
theorem wM_X10_188 : Cond.methodLink RX10 188 yX10_puts ∈ okW := ok_of (tb_6 (List.mem_of_getElem? (i := 137) rfl)) rfl
theorem wIM_X10_puts : Cond.instanceMethod yX10_puts ∈ okW := ok_of (tb_6 (List.mem_of_getElem? (i := 139) rfl)) rfl
theorem wCD_X10_puts : Cond.code yX10_puts cX10_puts 3 none ∈ okW := ok_of (tb_6 (List.mem_of_getElem? (i := 140) rfl)) rfl
theorem wM_L_42 : Cond.methodLink RL 42 yX10_end ∈ okW := ok_of (tb_6 (List.mem_of_getElem? (i := 141) rfl)) rfl
theorem wIM_X10_end : Cond.instanceMethod yX10_end ∈ okW := ok_of (tb_6 (List.mem_of_getElem? (i := 142) rfl)) rfl
theorem wSE_X10_end : Cond.selects yX10_end.cls yX10_end yX10_end ∈ okW := ok_of (tb_6 (List.mem_of_getElem? (i := 143) rfl)) rfl
theorem wCD_X10_end : Cond.code yX10_end cX10_end 2 (some .boolean) ∈ okW := ok_of (tb_6 (List.mem_of_getElem? (i := 144) rfl)) rfl
theorem wM_L_47 : Cond.methodLink RL 47 yX10_text ∈ okW := ok_of (tb_6 (List.mem_of_getElem? (i := 145) rfl)) rfl
theorem wIM_X10_text : Cond.instanceMethod yX10_text ∈ okW := ok_of (tb_6 (List.mem_of_getElem? (i := 146) rfl)) rfl
theorem wSE_X10_text : Cond.selects yX10_text.cls yX10_text yX10_text ∈ okW := ok_of (tb_6 (List.mem_of_getElem? (i := 147) rfl)) rfl
theorem wCD_X10_text : Cond.code yX10_text cX10_text 7 (some .int) ∈ okW := ok_of (tb_6 (List.mem_of_getElem? (i := 148) rfl)) rfl
theorem wM_X10_242 : Cond.methodLink RX10 242 yX10_reads ∈ okW := ok_of (tb_6 (List.mem_of_getElem? (i := 149) rfl)) rfl
theorem wIM_X10_reads : Cond.instanceMethod yX10_reads ∈ okW := ok_of (tb_6 (List.mem_of_getElem? (i := 151) rfl)) rfl
theorem wCD_X10_reads : Cond.code yX10_reads cX10_reads 2 none ∈ okW := ok_of (tb_6 (List.mem_of_getElem? (i := 152) rfl)) rfl
theorem wM_X10_195 : Cond.methodLink RX10 195 yX10_raw ∈ okW := ok_of (tb_6 (List.mem_of_getElem? (i := 153) rfl)) rfl
theorem wIM_X10_raw : Cond.instanceMethod yX10_raw ∈ okW := ok_of (tb_6 (List.mem_of_getElem? (i := 155) rfl)) rfl
theorem wCD_X10_raw : Cond.code yX10_raw cX10_raw 2 (some .int) ∈ okW := ok_of (tb_6 (List.mem_of_getElem? (i := 156) rfl)) rfl
theorem wM_X10_208 : Cond.methodLink RX10 208 yX10_isLetter ∈ okW := ok_of (tb_6 (List.mem_of_getElem? (i := 157) rfl)) rfl
theorem wIM_X10_isLetter : Cond.instanceMethod yX10_isLetter ∈ okW := ok_of (tb_6 (List.mem_of_getElem? (i := 159) rfl)) rfl
theorem wCD_X10_isLetter : Cond.code yX10_isLetter cX10_isLetter 2 (some .boolean) ∈ okW := ok_of (tb_6 (List.mem_of_getElem? (i := 160) rfl)) rfl
theorem wM_X10_211 : Cond.methodLink RX10 211 yX10_wordAt ∈ okW := ok_of (tb_6 (List.mem_of_getElem? (i := 161) rfl)) rfl
theorem wIM_X10_wordAt : Cond.instanceMethod yX10_wordAt ∈ okW := ok_of (tb_6 (List.mem_of_getElem? (i := 163) rfl)) rfl
theorem wCD_X10_wordAt : Cond.code yX10_wordAt cX10_wordAt 6 (some .int) ∈ okW := ok_of (tb_6 (List.mem_of_getElem? (i := 164) rfl)) rfl
theorem wM_X10_215 : Cond.methodLink RX10 215 yX10_isDigit ∈ okW := ok_of (tb_6 (List.mem_of_getElem? (i := 165) rfl)) rfl
theorem wIM_X10_isDigit : Cond.instanceMethod yX10_isDigit ∈ okW := ok_of (tb_6 (List.mem_of_getElem? (i := 167) rfl)) rfl
theorem wCD_X10_isDigit : Cond.code yX10_isDigit cX10_isDigit 2 (some .boolean) ∈ okW := ok_of (tb_6 (List.mem_of_getElem? (i := 168) rfl)) rfl
theorem wK_X10_218 : Cond.constant RX10 218 (100000) ∈ okW := ok_of (tb_6 (List.mem_of_getElem? (i := 169) rfl)) rfl
theorem wM_X10_219 : Cond.methodLink RX10 219 yX10_isMarkSign ∈ okW := ok_of (tb_6 (List.mem_of_getElem? (i := 170) rfl)) rfl
theorem wIM_X10_isMarkSign : Cond.instanceMethod yX10_isMarkSign ∈ okW := ok_of (tb_6 (List.mem_of_getElem? (i := 172) rfl)) rfl
theorem wCD_X10_isMarkSign : Cond.code yX10_isMarkSign cX10_isMarkSign 2 (some .boolean) ∈ okW := ok_of (tb_6 (List.mem_of_getElem? (i := 173) rfl)) rfl
theorem wM_X10_295 : Cond.methodLink RX10 295 yX10_readText ∈ okW := ok_of (tb_6 (List.mem_of_getElem? (i := 174) rfl)) rfl
theorem wIM_X10_readText : Cond.instanceMethod yX10_readText ∈ okW := ok_of (tb_6 (List.mem_of_getElem? (i := 176) rfl)) rfl
theorem wCD_X10_readText : Cond.code yX10_readText cX10_readText 2 (some .int) ∈ okW := ok_of (tb_6 (List.mem_of_getElem? (i := 177) rfl)) rfl
theorem wM_X10_285 : Cond.methodLink RX10 285 yX10_isBegin ∈ okW := ok_of (tb_6 (List.mem_of_getElem? (i := 178) rfl)) rfl
theorem wIM_X10_isBegin : Cond.instanceMethod yX10_isBegin ∈ okW := ok_of (tb_6 (List.mem_of_getElem? (i := 180) rfl)) rfl
theorem wCD_X10_isBegin : Cond.code yX10_isBegin cX10_isBegin 1 (some .boolean) ∈ okW := ok_of (tb_6 (List.mem_of_getElem? (i := 181) rfl)) rfl
theorem wM_X10_235 : Cond.methodLink RX10 235 yX10_fails ∈ okW := ok_of (tb_6 (List.mem_of_getElem? (i := 182) rfl)) rfl
theorem wIM_X10_fails : Cond.instanceMethod yX10_fails ∈ okW := ok_of (tb_6 (List.mem_of_getElem? (i := 184) rfl)) rfl
theorem wCD_X10_fails : Cond.code yX10_fails cX10_fails 2 (some .int) ∈ okW := ok_of (tb_6 (List.mem_of_getElem? (i := 185) rfl)) rfl
theorem wM_X10_289 : Cond.methodLink RX10 289 yX10_readLine ∈ okW := ok_of (tb_6 (List.mem_of_getElem? (i := 186) rfl)) rfl
theorem wIM_X10_readLine : Cond.instanceMethod yX10_readLine ∈ okW := ok_of (tb_6 (List.mem_of_getElem? (i := 188) rfl)) rfl
theorem wCD_X10_readLine : Cond.code yX10_readLine cX10_readLine 3 (some .int) ∈ okW := ok_of (tb_6 (List.mem_of_getElem? (i := 189) rfl)) rfl
theorem wM_X10_279 : Cond.methodLink RX10 279 yX10_readNumbers ∈ okW := ok_of (tb_6 (List.mem_of_getElem? (i := 190) rfl)) rfl
theorem wIM_X10_readNumbers : Cond.instanceMethod yX10_readNumbers ∈ okW := ok_of (tb_6 (List.mem_of_getElem? (i := 192) rfl)) rfl
theorem wCD_X10_readNumbers : Cond.code yX10_readNumbers cX10_readNumbers 3 (some .int) ∈ okW := ok_of (tb_6 (List.mem_of_getElem? (i := 193) rfl)) rfl
theorem wM_X10_276 : Cond.methodLink RX10 276 yX10_readNumber ∈ okW := ok_of (tb_6 (List.mem_of_getElem? (i := 194) rfl)) rfl
theorem wIM_X10_readNumber : Cond.instanceMethod yX10_readNumber ∈ okW := ok_of (tb_6 (List.mem_of_getElem? (i := 196) rfl)) rfl
theorem wCD_X10_readNumber : Cond.code yX10_readNumber cX10_readNumber 4 (some .int) ∈ okW := ok_of (tb_6 (List.mem_of_getElem? (i := 197) rfl)) rfl
theorem wM_X10_255 : Cond.methodLink RX10 255 yX10_readSum ∈ okW := ok_of (tb_6 (List.mem_of_getElem? (i := 198) rfl)) rfl
theorem wIM_X10_readSum : Cond.instanceMethod yX10_readSum ∈ okW := ok_of (tb_6 (List.mem_of_getElem? (i := 200) rfl)) rfl
theorem wCD_X10_readSum : Cond.code yX10_readSum cX10_readSum 2 (some .int) ∈ okW := ok_of (tb_6 (List.mem_of_getElem? (i := 201) rfl)) rfl
theorem wM_X10_252 : Cond.methodLink RX10 252 yX10_readProduct ∈ okW := ok_of (tb_6 (List.mem_of_getElem? (i := 202) rfl)) rfl
theorem wIM_X10_readProduct : Cond.instanceMethod yX10_readProduct ∈ okW := ok_of (tb_6 (List.mem_of_getElem? (i := 204) rfl)) rfl
theorem wCD_X10_readProduct : Cond.code yX10_readProduct cX10_readProduct 2 (some .int) ∈ okW := ok_of (tb_6 (List.mem_of_getElem? (i := 205) rfl)) rfl
theorem wM_X10_245 : Cond.methodLink RX10 245 yX10_readUnit ∈ okW := ok_of (tb_6 (List.mem_of_getElem? (i := 206) rfl)) rfl
theorem wIM_X10_readUnit : Cond.instanceMethod yX10_readUnit ∈ okW := ok_of (tb_6 (List.mem_of_getElem? (i := 208) rfl)) rfl
theorem wCD_X10_readUnit : Cond.code yX10_readUnit cX10_readUnit 2 (some .int) ∈ okW := ok_of (tb_6 (List.mem_of_getElem? (i := 209) rfl)) rfl
theorem wM_X10_238 : Cond.methodLink RX10 238 yX10_emits ∈ okW := ok_of (tb_6 (List.mem_of_getElem? (i := 210) rfl)) rfl
theorem wIM_X10_emits : Cond.instanceMethod yX10_emits ∈ okW := ok_of (tb_6 (List.mem_of_getElem? (i := 212) rfl)) rfl
theorem wCD_X10_emits : Cond.code yX10_emits cX10_emits 3 none ∈ okW := ok_of (tb_6 (List.mem_of_getElem? (i := 213) rfl)) rfl
theorem wM_X10_249 : Cond.methodLink RX10 249 yX10_isSign ∈ okW := ok_of (tb_6 (List.mem_of_getElem? (i := 214) rfl)) rfl
theorem wIM_X10_isSign : Cond.instanceMethod yX10_isSign ∈ okW := ok_of (tb_6 (List.mem_of_getElem? (i := 216) rfl)) rfl
theorem wCD_X10_isSign : Cond.code yX10_isSign cX10_isSign 2 (some .boolean) ∈ okW := ok_of (tb_6 (List.mem_of_getElem? (i := 217) rfl)) rfl
theorem wM_X10_264 : Cond.methodLink RX10 264 yX10_isWord ∈ okW := ok_of (tb_6 (List.mem_of_getElem? (i := 218) rfl)) rfl
theorem wIM_X10_isWord : Cond.instanceMethod yX10_isWord ∈ okW := ok_of (tb_6 (List.mem_of_getElem? (i := 220) rfl)) rfl
theorem wCD_X10_isWord : Cond.code yX10_isWord cX10_isWord 2 (some .boolean) ∈ okW := ok_of (tb_6 (List.mem_of_getElem? (i := 221) rfl)) rfl
theorem wM_X10_282 : Cond.methodLink RX10 282 yX10_readAny ∈ okW := ok_of (tb_6 (List.mem_of_getElem? (i := 222) rfl)) rfl
theorem wIM_X10_readAny : Cond.instanceMethod yX10_readAny ∈ okW := ok_of (tb_6 (List.mem_of_getElem? (i := 224) rfl)) rfl
theorem wCD_X10_readAny : Cond.code yX10_readAny cX10_readAny 4 (some .int) ∈ okW := ok_of (tb_6 (List.mem_of_getElem? (i := 225) rfl)) rfl
theorem wM_X10_267 : Cond.methodLink RX10 267 yX10_waits ∈ okW := ok_of (tb_6 (List.mem_of_getElem? (i := 226) rfl)) rfl
theorem wIM_X10_waits : Cond.instanceMethod yX10_waits ∈ okW := ok_of (tb_6 (List.mem_of_getElem? (i := 228) rfl)) rfl
theorem wCD_X10_waits : Cond.code yX10_waits cX10_waits 2 none ∈ okW := ok_of (tb_6 (List.mem_of_getElem? (i := 229) rfl)) rfl
theorem wM_X10_270 : Cond.methodLink RX10 270 yX10_readCompared ∈ okW := ok_of (tb_6 (List.mem_of_getElem? (i := 230) rfl)) rfl
theorem wIM_X10_readCompared : Cond.instanceMethod yX10_readCompared ∈ okW := ok_of (tb_6 (List.mem_of_getElem? (i := 232) rfl)) rfl
theorem wCD_X10_readCompared : Cond.code yX10_readCompared cX10_readCompared 2 (some .int) ∈ okW := ok_of (tb_6 (List.mem_of_getElem? (i := 233) rfl)) rfl
theorem wM_X10_273 : Cond.methodLink RX10 273 yX10_settles ∈ okW := ok_of (tb_6 (List.mem_of_getElem? (i := 234) rfl)) rfl
theorem wIM_X10_settles : Cond.instanceMethod yX10_settles ∈ okW := ok_of (tb_6 (List.mem_of_getElem? (i := 236) rfl)) rfl
theorem wCD_X10_settles : Cond.code yX10_settles cX10_settles 2 none ∈ okW := ok_of (tb_6 (List.mem_of_getElem? (i := 237) rfl)) rfl
theorem wM_L_51 : Cond.methodLink RL 51 yX10_fault ∈ okW := ok_of (tb_6 (List.mem_of_getElem? (i := 238) rfl)) rfl
theorem wIM_X10_fault : Cond.instanceMethod yX10_fault ∈ okW := ok_of (tb_6 (List.mem_of_getElem? (i := 239) rfl)) rfl
theorem wSE_X10_fault : Cond.selects yX10_fault.cls yX10_fault yX10_fault ∈ okW := ok_of (tb_7 (List.mem_of_getElem? (i := 0) rfl)) rfl
theorem wCD_X10_fault : Cond.code yX10_fault cX10_fault 2 (some .int) ∈ okW := ok_of (tb_7 (List.mem_of_getElem? (i := 1) rfl)) rfl
theorem wM_L_55 : Cond.methodLink RL 55 yX10_force ∈ okW := ok_of (tb_7 (List.mem_of_getElem? (i := 2) rfl)) rfl
theorem wIM_X10_force : Cond.instanceMethod yX10_force ∈ okW := ok_of (tb_7 (List.mem_of_getElem? (i := 3) rfl)) rfl
theorem wSE_X10_force : Cond.selects yX10_force.cls yX10_force yX10_force ∈ okW := ok_of (tb_7 (List.mem_of_getElem? (i := 4) rfl)) rfl
theorem wCD_X10_force : Cond.code yX10_force cX10_force 3 (some .int) ∈ okW := ok_of (tb_7 (List.mem_of_getElem? (i := 5) rfl)) rfl
theorem wM_X10_328 : Cond.methodLink RX10 328 yX10_isLaw ∈ okW := ok_of (tb_7 (List.mem_of_getElem? (i := 6) rfl)) rfl
theorem wIM_X10_isLaw : Cond.instanceMethod yX10_isLaw ∈ okW := ok_of (tb_7 (List.mem_of_getElem? (i := 8) rfl)) rfl
theorem wCD_X10_isLaw : Cond.code yX10_isLaw cX10_isLaw 2 (some .boolean) ∈ okW := ok_of (tb_7 (List.mem_of_getElem? (i := 9) rfl)) rfl
theorem wM_L_59 : Cond.methodLink RL 59 yX10_tells ∈ okW := ok_of (tb_7 (List.mem_of_getElem? (i := 10) rfl)) rfl
theorem wIM_X10_tells : Cond.instanceMethod yX10_tells ∈ okW := ok_of (tb_7 (List.mem_of_getElem? (i := 11) rfl)) rfl
theorem wSE_X10_tells : Cond.selects yX10_tells.cls yX10_tells yX10_tells ∈ okW := ok_of (tb_7 (List.mem_of_getElem? (i := 12) rfl)) rfl
theorem wCD_X10_tells : Cond.code yX10_tells cX10_tells 6 (some .int) ∈ okW := ok_of (tb_7 (List.mem_of_getElem? (i := 13) rfl)) rfl
theorem wM_X10_331 : Cond.methodLink RX10 331 yX10_isTone ∈ okW := ok_of (tb_7 (List.mem_of_getElem? (i := 14) rfl)) rfl
theorem wIM_X10_isTone : Cond.instanceMethod yX10_isTone ∈ okW := ok_of (tb_7 (List.mem_of_getElem? (i := 16) rfl)) rfl
theorem wCD_X10_isTone : Cond.code yX10_isTone cX10_isTone 2 (some .boolean) ∈ okW := ok_of (tb_7 (List.mem_of_getElem? (i := 17) rfl)) rfl
theorem wK_X10_334 : Cond.constant RX10 334 (-100000) ∈ okW := ok_of (tb_7 (List.mem_of_getElem? (i := 18) rfl)) rfl
theorem wM_X10_316 : Cond.methodLink RX10 316 yX10_asksSlice ∈ okW := ok_of (tb_7 (List.mem_of_getElem? (i := 19) rfl)) rfl
theorem wIM_X10_asksSlice : Cond.instanceMethod yX10_asksSlice ∈ okW := ok_of (tb_7 (List.mem_of_getElem? (i := 21) rfl)) rfl
theorem wCD_X10_asksSlice : Cond.code yX10_asksSlice cX10_asksSlice 3 none ∈ okW := ok_of (tb_7 (List.mem_of_getElem? (i := 22) rfl)) rfl
theorem wM_X10_312 : Cond.methodLink RX10 312 yX10_asks ∈ okW := ok_of (tb_7 (List.mem_of_getElem? (i := 23) rfl)) rfl
theorem wIM_X10_asks : Cond.instanceMethod yX10_asks ∈ okW := ok_of (tb_7 (List.mem_of_getElem? (i := 25) rfl)) rfl
theorem wCD_X10_asks : Cond.code yX10_asks cX10_asks 8 none ∈ okW := ok_of (tb_7 (List.mem_of_getElem? (i := 26) rfl)) rfl
theorem wM_X10_309 : Cond.methodLink RX10 309 yX10_size ∈ okW := ok_of (tb_7 (List.mem_of_getElem? (i := 27) rfl)) rfl
theorem wIM_X10_size : Cond.instanceMethod yX10_size ∈ okW := ok_of (tb_7 (List.mem_of_getElem? (i := 29) rfl)) rfl
theorem wCD_X10_size : Cond.code yX10_size cX10_size 2 (some .int) ∈ okW := ok_of (tb_7 (List.mem_of_getElem? (i := 30) rfl)) rfl
theorem wM_X10_319 : Cond.methodLink RX10 319 yX10_tellsBy ∈ okW := ok_of (tb_7 (List.mem_of_getElem? (i := 31) rfl)) rfl
theorem wIM_X10_tellsBy : Cond.instanceMethod yX10_tellsBy ∈ okW := ok_of (tb_7 (List.mem_of_getElem? (i := 33) rfl)) rfl
theorem wCD_X10_tellsBy : Cond.code yX10_tellsBy cX10_tellsBy 8 (some .int) ∈ okW := ok_of (tb_7 (List.mem_of_getElem? (i := 34) rfl)) rfl
theorem wM_X10_305 : Cond.methodLink RX10 305 yX10_isSo ∈ okW := ok_of (tb_7 (List.mem_of_getElem? (i := 35) rfl)) rfl
theorem wIM_X10_isSo : Cond.instanceMethod yX10_isSo ∈ okW := ok_of (tb_7 (List.mem_of_getElem? (i := 37) rfl)) rfl
theorem wCD_X10_isSo : Cond.code yX10_isSo cX10_isSo 3 (some .boolean) ∈ okW := ok_of (tb_7 (List.mem_of_getElem? (i := 38) rfl)) rfl
theorem wM_X10_302 : Cond.methodLink RX10 302 yX10_worth ∈ okW := ok_of (tb_7 (List.mem_of_getElem? (i := 39) rfl)) rfl
theorem wIM_X10_worth : Cond.instanceMethod yX10_worth ∈ okW := ok_of (tb_7 (List.mem_of_getElem? (i := 41) rfl)) rfl
theorem wCD_X10_worth : Cond.code yX10_worth cX10_worth 6 (some .int) ∈ okW := ok_of (tb_7 (List.mem_of_getElem? (i := 42) rfl)) rfl
theorem wM_X10_298 : Cond.methodLink RX10 298 yX10_twoOf ∈ okW := ok_of (tb_7 (List.mem_of_getElem? (i := 43) rfl)) rfl
theorem wIM_X10_twoOf : Cond.instanceMethod yX10_twoOf ∈ okW := ok_of (tb_7 (List.mem_of_getElem? (i := 45) rfl)) rfl
theorem wCD_X10_twoOf : Cond.code yX10_twoOf cX10_twoOf 4 (some .int) ∈ okW := ok_of (tb_7 (List.mem_of_getElem? (i := 46) rfl)) rfl
theorem wK_X10_308 : Cond.constant RX10 308 (99999) ∈ okW := ok_of (tb_7 (List.mem_of_getElem? (i := 47) rfl)) rfl
theorem wM_L_63 : Cond.methodLink RL 63 yX10_tone ∈ okW := ok_of (tb_7 (List.mem_of_getElem? (i := 48) rfl)) rfl
theorem wIM_X10_tone : Cond.instanceMethod yX10_tone ∈ okW := ok_of (tb_7 (List.mem_of_getElem? (i := 49) rfl)) rfl
theorem wSE_X10_tone : Cond.selects yX10_tone.cls yX10_tone yX10_tone ∈ okW := ok_of (tb_7 (List.mem_of_getElem? (i := 50) rfl)) rfl
theorem wCD_X10_tone : Cond.code yX10_tone cX10_tone 3 (some .int) ∈ okW := ok_of (tb_7 (List.mem_of_getElem? (i := 51) rfl)) rfl
theorem wM_X10_335 : Cond.methodLink RX10 335 yX10_toneNow ∈ okW := ok_of (tb_7 (List.mem_of_getElem? (i := 52) rfl)) rfl
theorem wIM_X10_toneNow : Cond.instanceMethod yX10_toneNow ∈ okW := ok_of (tb_7 (List.mem_of_getElem? (i := 54) rfl)) rfl
theorem wCD_X10_toneNow : Cond.code yX10_toneNow cX10_toneNow 3 (some .int) ∈ okW := ok_of (tb_7 (List.mem_of_getElem? (i := 55) rfl)) rfl
theorem wM_X10_325 : Cond.methodLink RX10 325 yX10_toneBy ∈ okW := ok_of (tb_7 (List.mem_of_getElem? (i := 56) rfl)) rfl
theorem wIM_X10_toneBy : Cond.instanceMethod yX10_toneBy ∈ okW := ok_of (tb_7 (List.mem_of_getElem? (i := 58) rfl)) rfl
theorem wCD_X10_toneBy : Cond.code yX10_toneBy cX10_toneBy 7 (some .int) ∈ okW := ok_of (tb_7 (List.mem_of_getElem? (i := 59) rfl)) rfl
theorem wM_L_67 : Cond.methodLink RL 67 yX10_shave ∈ okW := ok_of (tb_7 (List.mem_of_getElem? (i := 60) rfl)) rfl
theorem wIM_X10_shave : Cond.instanceMethod yX10_shave ∈ okW := ok_of (tb_7 (List.mem_of_getElem? (i := 61) rfl)) rfl
theorem wSE_X10_shave : Cond.selects yX10_shave.cls yX10_shave yX10_shave ∈ okW := ok_of (tb_7 (List.mem_of_getElem? (i := 62) rfl)) rfl
theorem wCD_X10_shave : Cond.code yX10_shave cX10_shave 4 (some .int) ∈ okW := ok_of (tb_7 (List.mem_of_getElem? (i := 63) rfl)) rfl
theorem wM_X10_341 : Cond.methodLink RX10 341 yX10_canPass ∈ okW := ok_of (tb_7 (List.mem_of_getElem? (i := 64) rfl)) rfl
theorem wIM_X10_canPass : Cond.instanceMethod yX10_canPass ∈ okW := ok_of (tb_7 (List.mem_of_getElem? (i := 66) rfl)) rfl
theorem wCD_X10_canPass : Cond.code yX10_canPass cX10_canPass 4 (some .boolean) ∈ okW := ok_of (tb_7 (List.mem_of_getElem? (i := 67) rfl)) rfl
theorem wM_X10_344 : Cond.methodLink RX10 344 yX10_takesOff ∈ okW := ok_of (tb_7 (List.mem_of_getElem? (i := 68) rfl)) rfl
theorem wIM_X10_takesOff : Cond.instanceMethod yX10_takesOff ∈ okW := ok_of (tb_7 (List.mem_of_getElem? (i := 70) rfl)) rfl
theorem wCD_X10_takesOff : Cond.code yX10_takesOff cX10_takesOff 4 none ∈ okW := ok_of (tb_7 (List.mem_of_getElem? (i := 71) rfl)) rfl
theorem wM_X10_338 : Cond.methodLink RX10 338 yX10_isLost ∈ okW := ok_of (tb_7 (List.mem_of_getElem? (i := 72) rfl)) rfl
theorem wIM_X10_isLost : Cond.instanceMethod yX10_isLost ∈ okW := ok_of (tb_7 (List.mem_of_getElem? (i := 74) rfl)) rfl
theorem wCD_X10_isLost : Cond.code yX10_isLost cX10_isLost 3 (some .boolean) ∈ okW := ok_of (tb_7 (List.mem_of_getElem? (i := 75) rfl)) rfl
theorem wM_L_71 : Cond.methodLink RL 71 yX10_pass ∈ okW := ok_of (tb_7 (List.mem_of_getElem? (i := 76) rfl)) rfl
theorem wIM_X10_pass : Cond.instanceMethod yX10_pass ∈ okW := ok_of (tb_7 (List.mem_of_getElem? (i := 77) rfl)) rfl
theorem wSE_X10_pass : Cond.selects yX10_pass.cls yX10_pass yX10_pass ∈ okW := ok_of (tb_7 (List.mem_of_getElem? (i := 78) rfl)) rfl
theorem wCD_X10_pass : Cond.code yX10_pass cX10_pass 4 (some .int) ∈ okW := ok_of (tb_7 (List.mem_of_getElem? (i := 79) rfl)) rfl
theorem wM_L_75 : Cond.methodLink RL 75 yX10_goal ∈ okW := ok_of (tb_7 (List.mem_of_getElem? (i := 80) rfl)) rfl
theorem wIM_X10_goal : Cond.instanceMethod yX10_goal ∈ okW := ok_of (tb_7 (List.mem_of_getElem? (i := 81) rfl)) rfl
theorem wSE_X10_goal : Cond.selects yX10_goal.cls yX10_goal yX10_goal ∈ okW := ok_of (tb_7 (List.mem_of_getElem? (i := 82) rfl)) rfl
theorem wCD_X10_goal : Cond.code yX10_goal cX10_goal 4 (some .boolean) ∈ okW := ok_of (tb_7 (List.mem_of_getElem? (i := 83) rfl)) rfl
theorem wK_X10_348 : Cond.constant RX10 348 (999999) ∈ okW := ok_of (tb_7 (List.mem_of_getElem? (i := 84) rfl)) rfl
theorem wM_L_79 : Cond.methodLink RL 79 yX10_slack ∈ okW := ok_of (tb_7 (List.mem_of_getElem? (i := 85) rfl)) rfl
theorem wIM_X10_slack : Cond.instanceMethod yX10_slack ∈ okW := ok_of (tb_7 (List.mem_of_getElem? (i := 86) rfl)) rfl
theorem wSE_X10_slack : Cond.selects yX10_slack.cls yX10_slack yX10_slack ∈ okW := ok_of (tb_7 (List.mem_of_getElem? (i := 87) rfl)) rfl
theorem wCD_X10_slack : Cond.code yX10_slack cX10_slack 2 (some .boolean) ∈ okW := ok_of (tb_7 (List.mem_of_getElem? (i := 88) rfl)) rfl
theorem wM_L_87 : Cond.methodLink RL 87 yX10_takes ∈ okW := ok_of (tb_7 (List.mem_of_getElem? (i := 89) rfl)) rfl
theorem wIM_X10_takes : Cond.instanceMethod yX10_takes ∈ okW := ok_of (tb_7 (List.mem_of_getElem? (i := 90) rfl)) rfl
theorem wSE_X10_takes : Cond.selects yX10_takes.cls yX10_takes yX10_takes ∈ okW := ok_of (tb_7 (List.mem_of_getElem? (i := 91) rfl)) rfl
theorem wCD_X10_takes : Cond.code yX10_takes cX10_takes 6 (some .int) ∈ okW := ok_of (tb_7 (List.mem_of_getElem? (i := 92) rfl)) rfl
theorem wK_X10_349 : Cond.constant RX10 349 (-10000000) ∈ okW := ok_of (tb_7 (List.mem_of_getElem? (i := 93) rfl)) rfl
theorem wM_L_91 : Cond.methodLink RL 91 yX10_job ∈ okW := ok_of (tb_7 (List.mem_of_getElem? (i := 94) rfl)) rfl
theorem wIM_X10_job : Cond.instanceMethod yX10_job ∈ okW := ok_of (tb_7 (List.mem_of_getElem? (i := 95) rfl)) rfl
theorem wSE_X10_job : Cond.selects yX10_job.cls yX10_job yX10_job ∈ okW := ok_of (tb_7 (List.mem_of_getElem? (i := 96) rfl)) rfl
theorem wCD_X10_job : Cond.code yX10_job cX10_job 6 (some .int) ∈ okW := ok_of (tb_7 (List.mem_of_getElem? (i := 97) rfl)) rfl
theorem wM_X10_350 : Cond.methodLink RX10 350 yX10_asksJob ∈ okW := ok_of (tb_7 (List.mem_of_getElem? (i := 98) rfl)) rfl
theorem wIM_X10_asksJob : Cond.instanceMethod yX10_asksJob ∈ okW := ok_of (tb_7 (List.mem_of_getElem? (i := 100) rfl)) rfl
theorem wCD_X10_asksJob : Cond.code yX10_asksJob cX10_asksJob 6 none ∈ okW := ok_of (tb_7 (List.mem_of_getElem? (i := 101) rfl)) rfl
theorem wM_X10_353 : Cond.methodLink RX10 353 yX10_doesLine ∈ okW := ok_of (tb_7 (List.mem_of_getElem? (i := 102) rfl)) rfl
theorem wIM_X10_doesLine : Cond.instanceMethod yX10_doesLine ∈ okW := ok_of (tb_7 (List.mem_of_getElem? (i := 104) rfl)) rfl
theorem wCD_X10_doesLine : Cond.code yX10_doesLine cX10_doesLine 7 none ∈ okW := ok_of (tb_7 (List.mem_of_getElem? (i := 105) rfl)) rfl
theorem wM_L_95 : Cond.methodLink RL 95 yX10_fewest ∈ okW := ok_of (tb_7 (List.mem_of_getElem? (i := 106) rfl)) rfl
theorem wIM_X10_fewest : Cond.instanceMethod yX10_fewest ∈ okW := ok_of (tb_7 (List.mem_of_getElem? (i := 107) rfl)) rfl
theorem wSE_X10_fewest : Cond.selects yX10_fewest.cls yX10_fewest yX10_fewest ∈ okW := ok_of (tb_7 (List.mem_of_getElem? (i := 108) rfl)) rfl
theorem wCD_X10_fewest : Cond.code yX10_fewest cX10_fewest 4 (some .int) ∈ okW := ok_of (tb_7 (List.mem_of_getElem? (i := 109) rfl)) rfl
theorem wM_X10_371 : Cond.methodLink RX10 371 yX10_findsFewest ∈ okW := ok_of (tb_7 (List.mem_of_getElem? (i := 110) rfl)) rfl
theorem wIM_X10_findsFewest : Cond.instanceMethod yX10_findsFewest ∈ okW := ok_of (tb_7 (List.mem_of_getElem? (i := 112) rfl)) rfl
theorem wCD_X10_findsFewest : Cond.code yX10_findsFewest cX10_findsFewest 4 (some .int) ∈ okW := ok_of (tb_7 (List.mem_of_getElem? (i := 113) rfl)) rfl
theorem wM_X10_362 : Cond.methodLink RX10 362 yX10_findsTable ∈ okW := ok_of (tb_7 (List.mem_of_getElem? (i := 114) rfl)) rfl
theorem wIM_X10_findsTable : Cond.instanceMethod yX10_findsTable ∈ okW := ok_of (tb_7 (List.mem_of_getElem? (i := 116) rfl)) rfl
theorem wCD_X10_findsTable : Cond.code yX10_findsTable cX10_findsTable 6 none ∈ okW := ok_of (tb_7 (List.mem_of_getElem? (i := 117) rfl)) rfl
theorem wM_X10_365 : Cond.methodLink RX10 365 yX10_does ∈ okW := ok_of (tb_7 (List.mem_of_getElem? (i := 118) rfl)) rfl
theorem wIM_X10_does : Cond.instanceMethod yX10_does ∈ okW := ok_of (tb_7 (List.mem_of_getElem? (i := 120) rfl)) rfl
theorem wCD_X10_does : Cond.code yX10_does cX10_does 6 (some .boolean) ∈ okW := ok_of (tb_7 (List.mem_of_getElem? (i := 121) rfl)) rfl
theorem wM_X10_359 : Cond.methodLink RX10 359 yX10_wouldBe ∈ okW := ok_of (tb_7 (List.mem_of_getElem? (i := 122) rfl)) rfl
theorem wIM_X10_wouldBe : Cond.instanceMethod yX10_wouldBe ∈ okW := ok_of (tb_7 (List.mem_of_getElem? (i := 124) rfl)) rfl
theorem wCD_X10_wouldBe : Cond.code yX10_wouldBe cX10_wouldBe 6 (some .int) ∈ okW := ok_of (tb_7 (List.mem_of_getElem? (i := 125) rfl)) rfl
theorem wM_X10_356 : Cond.methodLink RX10 356 yX10_toneByTable ∈ okW := ok_of (tb_7 (List.mem_of_getElem? (i := 126) rfl)) rfl
theorem wIM_X10_toneByTable : Cond.instanceMethod yX10_toneByTable ∈ okW := ok_of (tb_7 (List.mem_of_getElem? (i := 128) rfl)) rfl
theorem wCD_X10_toneByTable : Cond.code yX10_toneByTable cX10_toneByTable 6 (some .int) ∈ okW := ok_of (tb_7 (List.mem_of_getElem? (i := 129) rfl)) rfl
theorem wM_X10_368 : Cond.methodLink RX10 368 yX10_goesOn ∈ okW := ok_of (tb_7 (List.mem_of_getElem? (i := 130) rfl)) rfl
theorem wIM_X10_goesOn : Cond.instanceMethod yX10_goesOn ∈ okW := ok_of (tb_7 (List.mem_of_getElem? (i := 132) rfl)) rfl
theorem wCD_X10_goesOn : Cond.code yX10_goesOn cX10_goesOn 4 (some .boolean) ∈ okW := ok_of (tb_7 (List.mem_of_getElem? (i := 133) rfl)) rfl
theorem wM_L_99 : Cond.methodLink RL 99 yX10_tap ∈ okW := ok_of (tb_7 (List.mem_of_getElem? (i := 134) rfl)) rfl
theorem wIM_X10_tap : Cond.instanceMethod yX10_tap ∈ okW := ok_of (tb_7 (List.mem_of_getElem? (i := 135) rfl)) rfl
theorem wSE_X10_tap : Cond.selects yX10_tap.cls yX10_tap yX10_tap ∈ okW := ok_of (tb_7 (List.mem_of_getElem? (i := 136) rfl)) rfl
theorem wCD_X10_tap : Cond.code yX10_tap cX10_tap 6 (some .int) ∈ okW := ok_of (tb_7 (List.mem_of_getElem? (i := 137) rfl)) rfl
theorem wK_X10_374 : Cond.constant RX10 374 (9999999) ∈ okW := ok_of (tb_7 (List.mem_of_getElem? (i := 138) rfl)) rfl
theorem wM_L_104 : Cond.methodLink RL 104 yX10_fits ∈ okW := ok_of (tb_7 (List.mem_of_getElem? (i := 139) rfl)) rfl
theorem wIM_X10_fits : Cond.instanceMethod yX10_fits ∈ okW := ok_of (tb_7 (List.mem_of_getElem? (i := 140) rfl)) rfl
theorem wSE_X10_fits : Cond.selects yX10_fits.cls yX10_fits yX10_fits ∈ okW := ok_of (tb_7 (List.mem_of_getElem? (i := 141) rfl)) rfl
theorem wCD_X10_fits : Cond.code yX10_fits cX10_fits 5 (some .int) ∈ okW := ok_of (tb_7 (List.mem_of_getElem? (i := 142) rfl)) rfl
theorem wM_X10_387 : Cond.methodLink RX10 387 yX10_findsFits ∈ okW := ok_of (tb_7 (List.mem_of_getElem? (i := 143) rfl)) rfl
theorem wIM_X10_findsFits : Cond.instanceMethod yX10_findsFits ∈ okW := ok_of (tb_7 (List.mem_of_getElem? (i := 145) rfl)) rfl
theorem wCD_X10_findsFits : Cond.code yX10_findsFits cX10_findsFits 7 none ∈ okW := ok_of (tb_7 (List.mem_of_getElem? (i := 146) rfl)) rfl
theorem wM_X10_381 : Cond.methodLink RX10 381 yX10_fitsAll ∈ okW := ok_of (tb_7 (List.mem_of_getElem? (i := 147) rfl)) rfl
theorem wIM_X10_fitsAll : Cond.instanceMethod yX10_fitsAll ∈ okW := ok_of (tb_7 (List.mem_of_getElem? (i := 149) rfl)) rfl
theorem wCD_X10_fitsAll : Cond.code yX10_fitsAll cX10_fitsAll 4 (some .boolean) ∈ okW := ok_of (tb_7 (List.mem_of_getElem? (i := 150) rfl)) rfl
theorem wM_X10_375 : Cond.methodLink RX10 375 yX10_toneOf ∈ okW := ok_of (tb_7 (List.mem_of_getElem? (i := 151) rfl)) rfl
theorem wIM_X10_toneOf : Cond.instanceMethod yX10_toneOf ∈ okW := ok_of (tb_7 (List.mem_of_getElem? (i := 153) rfl)) rfl
theorem wCD_X10_toneOf : Cond.code yX10_toneOf cX10_toneOf 7 (some .int) ∈ okW := ok_of (tb_7 (List.mem_of_getElem? (i := 154) rfl)) rfl
theorem wM_X10_390 : Cond.methodLink RX10 390 yX10_nextPass ∈ okW := ok_of (tb_7 (List.mem_of_getElem? (i := 155) rfl)) rfl
theorem wIM_X10_nextPass : Cond.instanceMethod yX10_nextPass ∈ okW := ok_of (tb_7 (List.mem_of_getElem? (i := 157) rfl)) rfl
theorem wCD_X10_nextPass : Cond.code yX10_nextPass cX10_nextPass 6 (some .int) ∈ okW := ok_of (tb_7 (List.mem_of_getElem? (i := 158) rfl)) rfl
theorem wM_X10_384 : Cond.methodLink RX10 384 yX10_unlikeBy ∈ okW := ok_of (tb_7 (List.mem_of_getElem? (i := 159) rfl)) rfl
theorem wIM_X10_unlikeBy : Cond.instanceMethod yX10_unlikeBy ∈ okW := ok_of (tb_7 (List.mem_of_getElem? (i := 161) rfl)) rfl
theorem wCD_X10_unlikeBy : Cond.code yX10_unlikeBy cX10_unlikeBy 8 (some .int) ∈ okW := ok_of (tb_7 (List.mem_of_getElem? (i := 162) rfl)) rfl
theorem wM_X10_393 : Cond.methodLink RX10 393 yX10_sureOf ∈ okW := ok_of (tb_7 (List.mem_of_getElem? (i := 163) rfl)) rfl
theorem wIM_X10_sureOf : Cond.instanceMethod yX10_sureOf ∈ okW := ok_of (tb_7 (List.mem_of_getElem? (i := 165) rfl)) rfl
theorem wCD_X10_sureOf : Cond.code yX10_sureOf cX10_sureOf 3 (some .int) ∈ okW := ok_of (tb_7 (List.mem_of_getElem? (i := 166) rfl)) rfl
theorem wM_L_108 : Cond.methodLink RL 108 yX10_off ∈ okW := ok_of (tb_7 (List.mem_of_getElem? (i := 167) rfl)) rfl
theorem wIM_X10_off : Cond.instanceMethod yX10_off ∈ okW := ok_of (tb_7 (List.mem_of_getElem? (i := 168) rfl)) rfl
theorem wSE_X10_off : Cond.selects yX10_off.cls yX10_off yX10_off ∈ okW := ok_of (tb_7 (List.mem_of_getElem? (i := 169) rfl)) rfl
theorem wCD_X10_off : Cond.code yX10_off cX10_off 2 (some .int) ∈ okW := ok_of (tb_7 (List.mem_of_getElem? (i := 170) rfl)) rfl
theorem wM_X10_399 : Cond.methodLink RX10 399 yX10_offOf ∈ okW := ok_of (tb_7 (List.mem_of_getElem? (i := 171) rfl)) rfl
theorem wIM_X10_offOf : Cond.instanceMethod yX10_offOf ∈ okW := ok_of (tb_7 (List.mem_of_getElem? (i := 173) rfl)) rfl
theorem wCD_X10_offOf : Cond.code yX10_offOf cX10_offOf 6 (some .int) ∈ okW := ok_of (tb_7 (List.mem_of_getElem? (i := 174) rfl)) rfl
theorem wK_X10_396 : Cond.constantLong RX10 396 (999999999) ∈ okW := ok_of (tb_7 (List.mem_of_getElem? (i := 175) rfl)) rfl
theorem wK_X10_398 : Cond.constant RX10 398 (999999999) ∈ okW := ok_of (tb_7 (List.mem_of_getElem? (i := 176) rfl)) rfl
theorem wM_L_112 : Cond.methodLink RL 112 yX10_still ∈ okW := ok_of (tb_7 (List.mem_of_getElem? (i := 177) rfl)) rfl
theorem wIM_X10_still : Cond.instanceMethod yX10_still ∈ okW := ok_of (tb_7 (List.mem_of_getElem? (i := 178) rfl)) rfl
theorem wSE_X10_still : Cond.selects yX10_still.cls yX10_still yX10_still ∈ okW := ok_of (tb_7 (List.mem_of_getElem? (i := 179) rfl)) rfl
theorem wCD_X10_still : Cond.code yX10_still cX10_still 4 (some .int) ∈ okW := ok_of (tb_7 (List.mem_of_getElem? (i := 180) rfl)) rfl
theorem wM_X10_408 : Cond.methodLink RX10 408 yX10_stills ∈ okW := ok_of (tb_7 (List.mem_of_getElem? (i := 181) rfl)) rfl
theorem wIM_X10_stills : Cond.instanceMethod yX10_stills ∈ okW := ok_of (tb_7 (List.mem_of_getElem? (i := 183) rfl)) rfl
theorem wCD_X10_stills : Cond.code yX10_stills cX10_stills 5 (some .int) ∈ okW := ok_of (tb_7 (List.mem_of_getElem? (i := 184) rfl)) rfl
theorem wM_X10_405 : Cond.methodLink RX10 405 yX10_isStill ∈ okW := ok_of (tb_7 (List.mem_of_getElem? (i := 185) rfl)) rfl
theorem wIM_X10_isStill : Cond.instanceMethod yX10_isStill ∈ okW := ok_of (tb_7 (List.mem_of_getElem? (i := 187) rfl)) rfl
theorem wCD_X10_isStill : Cond.code yX10_isStill cX10_isStill 4 (some .boolean) ∈ okW := ok_of (tb_7 (List.mem_of_getElem? (i := 188) rfl)) rfl
theorem wM_X10_402 : Cond.methodLink RX10 402 yX10_sways ∈ okW := ok_of (tb_7 (List.mem_of_getElem? (i := 189) rfl)) rfl
theorem wIM_X10_sways : Cond.instanceMethod yX10_sways ∈ okW := ok_of (tb_7 (List.mem_of_getElem? (i := 191) rfl)) rfl
theorem wCD_X10_sways : Cond.code yX10_sways cX10_sways 4 (some .boolean) ∈ okW := ok_of (tb_7 (List.mem_of_getElem? (i := 192) rfl)) rfl
theorem wM_X10_411 : Cond.methodLink RX10 411 yX10_stillAt ∈ okW := ok_of (tb_7 (List.mem_of_getElem? (i := 193) rfl)) rfl
theorem wIM_X10_stillAt : Cond.instanceMethod yX10_stillAt ∈ okW := ok_of (tb_7 (List.mem_of_getElem? (i := 195) rfl)) rfl
theorem wCD_X10_stillAt : Cond.code yX10_stillAt cX10_stillAt 6 (some .int) ∈ okW := ok_of (tb_7 (List.mem_of_getElem? (i := 196) rfl)) rfl
theorem wM_L_116 : Cond.methodLink RL 116 yX10_holes ∈ okW := ok_of (tb_7 (List.mem_of_getElem? (i := 197) rfl)) rfl
theorem wIM_X10_holes : Cond.instanceMethod yX10_holes ∈ okW := ok_of (tb_7 (List.mem_of_getElem? (i := 198) rfl)) rfl
theorem wSE_X10_holes : Cond.selects yX10_holes.cls yX10_holes yX10_holes ∈ okW := ok_of (tb_7 (List.mem_of_getElem? (i := 199) rfl)) rfl
theorem wCD_X10_holes : Cond.code yX10_holes cX10_holes 4 (some .boolean) ∈ okW := ok_of (tb_7 (List.mem_of_getElem? (i := 200) rfl)) rfl
theorem wM_L_83 : Cond.methodLink RL 83 yX10_state ∈ okW := ok_of (tb_7 (List.mem_of_getElem? (i := 201) rfl)) rfl
theorem wIM_X10_state : Cond.instanceMethod yX10_state ∈ okW := ok_of (tb_7 (List.mem_of_getElem? (i := 202) rfl)) rfl
theorem wSE_X10_state : Cond.selects yX10_state.cls yX10_state yX10_state ∈ okW := ok_of (tb_7 (List.mem_of_getElem? (i := 203) rfl)) rfl
theorem wCD_X10_state : Cond.code yX10_state cX10_state 3 (some .int) ∈ okW := ok_of (tb_7 (List.mem_of_getElem? (i := 204) rfl)) rfl
theorem wM_X10_414 : Cond.methodLink RX10 414 yX10_isTrue ∈ okW := ok_of (tb_7 (List.mem_of_getElem? (i := 205) rfl)) rfl
theorem wIM_X10_isTrue : Cond.instanceMethod yX10_isTrue ∈ okW := ok_of (tb_7 (List.mem_of_getElem? (i := 207) rfl)) rfl
theorem wCD_X10_isTrue : Cond.code yX10_isTrue cX10_isTrue 3 (some .boolean) ∈ okW := ok_of (tb_7 (List.mem_of_getElem? (i := 208) rfl)) rfl
theorem wM_X10_417 : Cond.methodLink RX10 417 yX10_amiss ∈ okW := ok_of (tb_7 (List.mem_of_getElem? (i := 209) rfl)) rfl
theorem wIM_X10_amiss : Cond.instanceMethod yX10_amiss ∈ okW := ok_of (tb_7 (List.mem_of_getElem? (i := 211) rfl)) rfl
theorem wCD_X10_amiss : Cond.code yX10_amiss cX10_amiss 3 (some .int) ∈ okW := ok_of (tb_7 (List.mem_of_getElem? (i := 212) rfl)) rfl
theorem wM_L_120 : Cond.methodLink RL 120 yX10_tube ∈ okW := ok_of (tb_7 (List.mem_of_getElem? (i := 213) rfl)) rfl
theorem wIM_X10_tube : Cond.instanceMethod yX10_tube ∈ okW := ok_of (tb_7 (List.mem_of_getElem? (i := 214) rfl)) rfl
theorem wSE_X10_tube : Cond.selects yX10_tube.cls yX10_tube yX10_tube ∈ okW := ok_of (tb_7 (List.mem_of_getElem? (i := 215) rfl)) rfl
theorem wCD_X10_tube : Cond.code yX10_tube cX10_tube 4 (some .boolean) ∈ okW := ok_of (tb_7 (List.mem_of_getElem? (i := 216) rfl)) rfl
theorem wM_L_124 : Cond.methodLink RL 124 yX10_in ∈ okW := ok_of (tb_7 (List.mem_of_getElem? (i := 217) rfl)) rfl
theorem wIM_X10_in : Cond.instanceMethod yX10_in ∈ okW := ok_of (tb_7 (List.mem_of_getElem? (i := 218) rfl)) rfl
theorem wSE_X10_in : Cond.selects yX10_in.cls yX10_in yX10_in ∈ okW := ok_of (tb_7 (List.mem_of_getElem? (i := 219) rfl)) rfl
theorem wCD_X10_in : Cond.code yX10_in cX10_in 8 (some .int) ∈ okW := ok_of (tb_7 (List.mem_of_getElem? (i := 220) rfl)) rfl
theorem wM_X10_428 : Cond.methodLink RX10 428 yX10_isHeat ∈ okW := ok_of (tb_7 (List.mem_of_getElem? (i := 221) rfl)) rfl
theorem wIM_X10_isHeat : Cond.instanceMethod yX10_isHeat ∈ okW := ok_of (tb_7 (List.mem_of_getElem? (i := 223) rfl)) rfl
theorem wCD_X10_isHeat : Cond.code yX10_isHeat cX10_isHeat 2 (some .boolean) ∈ okW := ok_of (tb_7 (List.mem_of_getElem? (i := 224) rfl)) rfl
theorem wM_X10_431 : Cond.methodLink RX10 431 yX10_isWet ∈ okW := ok_of (tb_7 (List.mem_of_getElem? (i := 225) rfl)) rfl
theorem wIM_X10_isWet : Cond.instanceMethod yX10_isWet ∈ okW := ok_of (tb_7 (List.mem_of_getElem? (i := 227) rfl)) rfl
theorem wCD_X10_isWet : Cond.code yX10_isWet cX10_isWet 2 (some .boolean) ∈ okW := ok_of (tb_7 (List.mem_of_getElem? (i := 228) rfl)) rfl
theorem wM_X10_434 : Cond.methodLink RX10 434 yX10_beatOf ∈ okW := ok_of (tb_7 (List.mem_of_getElem? (i := 229) rfl)) rfl
theorem wIM_X10_beatOf : Cond.instanceMethod yX10_beatOf ∈ okW := ok_of (tb_7 (List.mem_of_getElem? (i := 231) rfl)) rfl
theorem wCD_X10_beatOf : Cond.code yX10_beatOf cX10_beatOf 5 (some .int) ∈ okW := ok_of (tb_7 (List.mem_of_getElem? (i := 232) rfl)) rfl
theorem wM_X10_422 : Cond.methodLink RX10 422 yX10_sounds ∈ okW := ok_of (tb_7 (List.mem_of_getElem? (i := 233) rfl)) rfl
theorem wIM_X10_sounds : Cond.instanceMethod yX10_sounds ∈ okW := ok_of (tb_7 (List.mem_of_getElem? (i := 235) rfl)) rfl
theorem wCD_X10_sounds : Cond.code yX10_sounds cX10_sounds 3 (some .int) ∈ okW := ok_of (tb_7 (List.mem_of_getElem? (i := 236) rfl)) rfl
theorem wM_X10_425 : Cond.methodLink RX10 425 yX10_drifted ∈ okW := ok_of (tb_7 (List.mem_of_getElem? (i := 237) rfl)) rfl
theorem wIM_X10_drifted : Cond.instanceMethod yX10_drifted ∈ okW := ok_of (tb_7 (List.mem_of_getElem? (i := 239) rfl)) rfl
theorem wCD_X10_drifted : Cond.code yX10_drifted cX10_drifted 8 (some .int) ∈ okW := ok_of (tb_8 (List.mem_of_getElem? (i := 0) rfl)) rfl
theorem wK_X10_420 : Cond.constantLong RX10 420 (10000) ∈ okW := ok_of (tb_8 (List.mem_of_getElem? (i := 1) rfl)) rfl
theorem wM_L_128 : Cond.methodLink RL 128 yX10_night ∈ okW := ok_of (tb_8 (List.mem_of_getElem? (i := 2) rfl)) rfl
theorem wIM_X10_night : Cond.instanceMethod yX10_night ∈ okW := ok_of (tb_8 (List.mem_of_getElem? (i := 3) rfl)) rfl
theorem wSE_X10_night : Cond.selects yX10_night.cls yX10_night yX10_night ∈ okW := ok_of (tb_8 (List.mem_of_getElem? (i := 4) rfl)) rfl
theorem wCD_X10_night : Cond.code yX10_night cX10_night 3 (some .int) ∈ okW := ok_of (tb_8 (List.mem_of_getElem? (i := 5) rfl)) rfl
theorem wM_L_132 : Cond.methodLink RL 132 yX10_nights ∈ okW := ok_of (tb_8 (List.mem_of_getElem? (i := 6) rfl)) rfl
theorem wIM_X10_nights : Cond.instanceMethod yX10_nights ∈ okW := ok_of (tb_8 (List.mem_of_getElem? (i := 7) rfl)) rfl
theorem wSE_X10_nights : Cond.selects yX10_nights.cls yX10_nights yX10_nights ∈ okW := ok_of (tb_8 (List.mem_of_getElem? (i := 8) rfl)) rfl
theorem wCD_X10_nights : Cond.code yX10_nights cX10_nights 5 (some .int) ∈ okW := ok_of (tb_8 (List.mem_of_getElem? (i := 9) rfl)) rfl
theorem wM_X10_449 : Cond.methodLink RX10 449 yX10_suits ∈ okW := ok_of (tb_8 (List.mem_of_getElem? (i := 10) rfl)) rfl
theorem wIM_X10_suits : Cond.instanceMethod yX10_suits ∈ okW := ok_of (tb_8 (List.mem_of_getElem? (i := 12) rfl)) rfl
theorem wCD_X10_suits : Cond.code yX10_suits cX10_suits 2 (some .int) ∈ okW := ok_of (tb_8 (List.mem_of_getElem? (i := 13) rfl)) rfl
theorem wM_X10_444 : Cond.methodLink RX10 444 yX10_worstBeat ∈ okW := ok_of (tb_8 (List.mem_of_getElem? (i := 14) rfl)) rfl
theorem wIM_X10_worstBeat : Cond.instanceMethod yX10_worstBeat ∈ okW := ok_of (tb_8 (List.mem_of_getElem? (i := 16) rfl)) rfl
theorem wCD_X10_worstBeat : Cond.code yX10_worstBeat cX10_worstBeat 4 (some .int) ∈ okW := ok_of (tb_8 (List.mem_of_getElem? (i := 17) rfl)) rfl
theorem wM_X10_441 : Cond.methodLink RX10 441 yX10_worstOf ∈ okW := ok_of (tb_8 (List.mem_of_getElem? (i := 18) rfl)) rfl
theorem wIM_X10_worstOf : Cond.instanceMethod yX10_worstOf ∈ okW := ok_of (tb_8 (List.mem_of_getElem? (i := 20) rfl)) rfl
theorem wCD_X10_worstOf : Cond.code yX10_worstOf cX10_worstOf 7 (some .int) ∈ okW := ok_of (tb_8 (List.mem_of_getElem? (i := 21) rfl)) rfl
theorem wM_X10_452 : Cond.methodLink RX10 452 yX10_together ∈ okW := ok_of (tb_8 (List.mem_of_getElem? (i := 22) rfl)) rfl
theorem wIM_X10_together : Cond.instanceMethod yX10_together ∈ okW := ok_of (tb_8 (List.mem_of_getElem? (i := 24) rfl)) rfl
theorem wCD_X10_together : Cond.code yX10_together cX10_together 8 (some .int) ∈ okW := ok_of (tb_8 (List.mem_of_getElem? (i := 25) rfl)) rfl
theorem wK_X10_447 : Cond.constantLong RX10 447 (1000) ∈ okW := ok_of (tb_8 (List.mem_of_getElem? (i := 26) rfl)) rfl
theorem wM_L_136 : Cond.methodLink RL 136 yX10_note ∈ okW := ok_of (tb_8 (List.mem_of_getElem? (i := 27) rfl)) rfl
theorem wIM_X10_note : Cond.instanceMethod yX10_note ∈ okW := ok_of (tb_8 (List.mem_of_getElem? (i := 28) rfl)) rfl
theorem wSE_X10_note : Cond.selects yX10_note.cls yX10_note yX10_note ∈ okW := ok_of (tb_8 (List.mem_of_getElem? (i := 29) rfl)) rfl
theorem wCD_X10_note : Cond.code yX10_note cX10_note 3 (some .int) ∈ okW := ok_of (tb_8 (List.mem_of_getElem? (i := 30) rfl)) rfl
theorem wM_L_140 : Cond.methodLink RL 140 yX10_blank ∈ okW := ok_of (tb_8 (List.mem_of_getElem? (i := 31) rfl)) rfl
theorem wIM_X10_blank : Cond.instanceMethod yX10_blank ∈ okW := ok_of (tb_8 (List.mem_of_getElem? (i := 32) rfl)) rfl
theorem wSE_X10_blank : Cond.selects yX10_blank.cls yX10_blank yX10_blank ∈ okW := ok_of (tb_8 (List.mem_of_getElem? (i := 33) rfl)) rfl
theorem wCD_X10_blank : Cond.code yX10_blank cX10_blank 3 (some .int) ∈ okW := ok_of (tb_8 (List.mem_of_getElem? (i := 34) rfl)) rfl
theorem wM_L_144 : Cond.methodLink RL 144 yX10_set ∈ okW := ok_of (tb_8 (List.mem_of_getElem? (i := 35) rfl)) rfl
theorem wIM_X10_set : Cond.instanceMethod yX10_set ∈ okW := ok_of (tb_8 (List.mem_of_getElem? (i := 36) rfl)) rfl
theorem wSE_X10_set : Cond.selects yX10_set.cls yX10_set yX10_set ∈ okW := ok_of (tb_8 (List.mem_of_getElem? (i := 37) rfl)) rfl
theorem wCD_X10_set : Cond.code yX10_set cX10_set 4 (some .int) ∈ okW := ok_of (tb_8 (List.mem_of_getElem? (i := 38) rfl)) rfl
theorem wM_X10_464 : Cond.methodLink RX10 464 yX10_leastWaste ∈ okW := ok_of (tb_8 (List.mem_of_getElem? (i := 39) rfl)) rfl
theorem wIM_X10_leastWaste : Cond.instanceMethod yX10_leastWaste ∈ okW := ok_of (tb_8 (List.mem_of_getElem? (i := 41) rfl)) rfl
theorem wCD_X10_leastWaste : Cond.code yX10_leastWaste cX10_leastWaste 6 (some .int) ∈ okW := ok_of (tb_8 (List.mem_of_getElem? (i := 42) rfl)) rfl
theorem wM_X10_461 : Cond.methodLink RX10 461 yX10_canHave ∈ okW := ok_of (tb_8 (List.mem_of_getElem? (i := 43) rfl)) rfl
theorem wIM_X10_canHave : Cond.instanceMethod yX10_canHave ∈ okW := ok_of (tb_8 (List.mem_of_getElem? (i := 45) rfl)) rfl
theorem wCD_X10_canHave : Cond.code yX10_canHave cX10_canHave 5 (some .boolean) ∈ okW := ok_of (tb_8 (List.mem_of_getElem? (i := 46) rfl)) rfl
theorem wM_L_148 : Cond.methodLink RL 148 yX10_down ∈ okW := ok_of (tb_8 (List.mem_of_getElem? (i := 47) rfl)) rfl
theorem wIM_X10_down : Cond.instanceMethod yX10_down ∈ okW := ok_of (tb_8 (List.mem_of_getElem? (i := 48) rfl)) rfl
theorem wSE_X10_down : Cond.selects yX10_down.cls yX10_down yX10_down ∈ okW := ok_of (tb_8 (List.mem_of_getElem? (i := 49) rfl)) rfl
theorem wCD_X10_down : Cond.code yX10_down cX10_down 5 (some .int) ∈ okW := ok_of (tb_8 (List.mem_of_getElem? (i := 50) rfl)) rfl
theorem wM_L_152 : Cond.methodLink RL 152 yX10_enough ∈ okW := ok_of (tb_8 (List.mem_of_getElem? (i := 51) rfl)) rfl
theorem wIM_X10_enough : Cond.instanceMethod yX10_enough ∈ okW := ok_of (tb_8 (List.mem_of_getElem? (i := 52) rfl)) rfl
theorem wSE_X10_enough : Cond.selects yX10_enough.cls yX10_enough yX10_enough ∈ okW := ok_of (tb_8 (List.mem_of_getElem? (i := 53) rfl)) rfl
theorem wCD_X10_enough : Cond.code yX10_enough cX10_enough 7 (some .int) ∈ okW := ok_of (tb_8 (List.mem_of_getElem? (i := 54) rfl)) rfl
theorem wM_L_157 : Cond.methodLink RL 157 yX10_image ∈ okW := ok_of (tb_8 (List.mem_of_getElem? (i := 55) rfl)) rfl
theorem wIM_X10_image : Cond.instanceMethod yX10_image ∈ okW := ok_of (tb_8 (List.mem_of_getElem? (i := 56) rfl)) rfl
theorem wSE_X10_image : Cond.selects yX10_image.cls yX10_image yX10_image ∈ okW := ok_of (tb_8 (List.mem_of_getElem? (i := 57) rfl)) rfl
theorem wCD_X10_image : Cond.code yX10_image cX10_image 2 (some .boolean) ∈ okW := ok_of (tb_8 (List.mem_of_getElem? (i := 58) rfl)) rfl
theorem wM_X10_473 : Cond.methodLink RX10 473 yX10_kept ∈ okW := ok_of (tb_8 (List.mem_of_getElem? (i := 59) rfl)) rfl
theorem wIM_X10_kept : Cond.instanceMethod yX10_kept ∈ okW := ok_of (tb_8 (List.mem_of_getElem? (i := 61) rfl)) rfl
theorem wCD_X10_kept : Cond.code yX10_kept cX10_kept 2 (some .int) ∈ okW := ok_of (tb_8 (List.mem_of_getElem? (i := 62) rfl)) rfl
theorem wM_X10_479 : Cond.methodLink RX10 479 yX10_keepsBars ∈ okW := ok_of (tb_8 (List.mem_of_getElem? (i := 63) rfl)) rfl
theorem wIM_X10_keepsBars : Cond.instanceMethod yX10_keepsBars ∈ okW := ok_of (tb_8 (List.mem_of_getElem? (i := 65) rfl)) rfl
theorem wCD_X10_keepsBars : Cond.code yX10_keepsBars cX10_keepsBars 2 none ∈ okW := ok_of (tb_8 (List.mem_of_getElem? (i := 66) rfl)) rfl
theorem wM_X10_482 : Cond.methodLink RX10 482 yX10_keepsTaps ∈ okW := ok_of (tb_8 (List.mem_of_getElem? (i := 67) rfl)) rfl
theorem wIM_X10_keepsTaps : Cond.instanceMethod yX10_keepsTaps ∈ okW := ok_of (tb_8 (List.mem_of_getElem? (i := 69) rfl)) rfl
theorem wCD_X10_keepsTaps : Cond.code yX10_keepsTaps cX10_keepsTaps 2 none ∈ okW := ok_of (tb_8 (List.mem_of_getElem? (i := 70) rfl)) rfl
theorem wM_X10_485 : Cond.methodLink RX10 485 yX10_keepsTexts ∈ okW := ok_of (tb_8 (List.mem_of_getElem? (i := 71) rfl)) rfl
theorem wIM_X10_keepsTexts : Cond.instanceMethod yX10_keepsTexts ∈ okW := ok_of (tb_8 (List.mem_of_getElem? (i := 73) rfl)) rfl
theorem wCD_X10_keepsTexts : Cond.code yX10_keepsTexts cX10_keepsTexts 2 none ∈ okW := ok_of (tb_8 (List.mem_of_getElem? (i := 74) rfl)) rfl
theorem wM_L_161 : Cond.methodLink RL 161 yX10_look ∈ okW := ok_of (tb_8 (List.mem_of_getElem? (i := 75) rfl)) rfl
theorem wIM_X10_look : Cond.instanceMethod yX10_look ∈ okW := ok_of (tb_8 (List.mem_of_getElem? (i := 76) rfl)) rfl
theorem wSE_X10_look : Cond.selects yX10_look.cls yX10_look yX10_look ∈ okW := ok_of (tb_8 (List.mem_of_getElem? (i := 77) rfl)) rfl
theorem wCD_X10_look : Cond.code yX10_look cX10_look 2 (some .int) ∈ okW := ok_of (tb_8 (List.mem_of_getElem? (i := 78) rfl)) rfl
theorem wM_X10_488 : Cond.methodLink RX10 488 yX10_barsThat ∈ okW := ok_of (tb_8 (List.mem_of_getElem? (i := 79) rfl)) rfl
theorem wIM_X10_barsThat : Cond.instanceMethod yX10_barsThat ∈ okW := ok_of (tb_8 (List.mem_of_getElem? (i := 81) rfl)) rfl
theorem wCD_X10_barsThat : Cond.code yX10_barsThat cX10_barsThat 4 (some .int) ∈ okW := ok_of (tb_8 (List.mem_of_getElem? (i := 82) rfl)) rfl
theorem wSE_X9_barAt : Cond.selects yX9_barAt.cls yX9_barAt yX9_barAt ∈ okW := ok_of (tp_1 (q := (yX9_barAt, 12)) (List.mem_of_getElem? (i := 0) rfl)) rfl
theorem wSE_X9_addBytes : Cond.selects yX9_addBytes.cls yX9_addBytes yX9_addBytes ∈ okW := ok_of (tp_1 (q := (yX9_addBytes, 12)) (List.mem_of_getElem? (i := 1) rfl)) rfl
theorem wSE_X9_textAt : Cond.selects yX9_textAt.cls yX9_textAt yX9_textAt ∈ okW := ok_of (tp_1 (q := (yX9_textAt, 12)) (List.mem_of_getElem? (i := 2) rfl)) rfl
theorem wSE_X4_addToken : Cond.selects yX4_addToken.cls yX4_addToken yX4_addToken ∈ okW := ok_of (tp_1 (q := (yX4_addToken, 9)) (List.mem_of_getElem? (i := 3) rfl)) rfl
theorem wSE_X4_refuse : Cond.selects yX4_refuse.cls yX4_refuse yX4_refuse ∈ okW := ok_of (tp_1 (q := (yX4_refuse, 9)) (List.mem_of_getElem? (i := 4) rfl)) rfl
theorem wSE_X4_lawHead : Cond.selects yX4_lawHead.cls yX4_lawHead yX4_lawHead ∈ okW := ok_of (tp_1 (q := (yX4_lawHead, 9)) (List.mem_of_getElem? (i := 5) rfl)) rfl
theorem wSE_X4_number : Cond.selects yX4_number.cls yX4_number yX4_number ∈ okW := ok_of (tp_1 (q := (yX4_number, 9)) (List.mem_of_getElem? (i := 6) rfl)) rfl
theorem wSE_X4_sum : Cond.selects yX4_sum.cls yX4_sum yX4_sum ∈ okW := ok_of (tp_1 (q := (yX4_sum, 9)) (List.mem_of_getElem? (i := 7) rfl)) rfl
theorem wSE_X4_term : Cond.selects yX4_term.cls yX4_term yX4_term ∈ okW := ok_of (tp_1 (q := (yX4_term, 9)) (List.mem_of_getElem? (i := 8) rfl)) rfl
theorem wSE_X4_isUnit : Cond.selects yX4_isUnit.cls yX4_isUnit yX4_isUnit ∈ okW := ok_of (tp_1 (q := (yX4_isUnit, 9)) (List.mem_of_getElem? (i := 9) rfl)) rfl
theorem wSE_X4_jobHead : Cond.selects yX4_jobHead.cls yX4_jobHead yX4_jobHead ∈ okW := ok_of (tp_1 (q := (yX4_jobHead, 9)) (List.mem_of_getElem? (i := 10) rfl)) rfl
theorem wSE_X4_either : Cond.selects yX4_either.cls yX4_either yX4_either ∈ okW := ok_of (tp_1 (q := (yX4_either, 9)) (List.mem_of_getElem? (i := 11) rfl)) rfl
theorem wSE_X4_both : Cond.selects yX4_both.cls yX4_both yX4_both ∈ okW := ok_of (tp_1 (q := (yX4_both, 9)) (List.mem_of_getElem? (i := 12) rfl)) rfl
theorem wSE_X4_part : Cond.selects yX4_part.cls yX4_part yX4_part ∈ okW := ok_of (tp_1 (q := (yX4_part, 9)) (List.mem_of_getElem? (i := 13) rfl)) rfl
theorem wSE_X4_opened : Cond.selects yX4_opened.cls yX4_opened yX4_opened ∈ okW := ok_of (tp_1 (q := (yX4_opened, 9)) (List.mem_of_getElem? (i := 14) rfl)) rfl
theorem wSE_X9_toneNow : Cond.selects yX9_toneNow.cls yX9_toneNow yX9_toneNow ∈ okW := ok_of (tp_1 (q := (yX9_toneNow, 12)) (List.mem_of_getElem? (i := 15) rfl)) rfl
theorem wSE_X9_takeOff : Cond.selects yX9_takeOff.cls yX9_takeOff yX9_takeOff ∈ okW := ok_of (tp_2 (q := (yX9_takeOff, 12)) (List.mem_of_getElem? (i := 0) rfl)) rfl
theorem wSE_X9_isLost : Cond.selects yX9_isLost.cls yX9_isLost yX9_isLost ∈ okW := ok_of (tp_2 (q := (yX9_isLost, 12)) (List.mem_of_getElem? (i := 1) rfl)) rfl
theorem wSE_X9_isTrue : Cond.selects yX9_isTrue.cls yX9_isTrue yX9_isTrue ∈ okW := ok_of (tp_2 (q := (yX9_isTrue, 12)) (List.mem_of_getElem? (i := 2) rfl)) rfl
theorem wSE_X9_amiss : Cond.selects yX9_amiss.cls yX9_amiss yX9_amiss ∈ okW := ok_of (tp_2 (q := (yX9_amiss, 12)) (List.mem_of_getElem? (i := 3) rfl)) rfl
theorem wSE_X9_findPoints : Cond.selects yX9_findPoints.cls yX9_findPoints yX9_findPoints ∈ okW := ok_of (tp_2 (q := (yX9_findPoints, 12)) (List.mem_of_getElem? (i := 4) rfl)) rfl
theorem wSE_X9_comesTrue : Cond.selects yX9_comesTrue.cls yX9_comesTrue yX9_comesTrue ∈ okW := ok_of (tp_2 (q := (yX9_comesTrue, 12)) (List.mem_of_getElem? (i := 5) rfl)) rfl
theorem wSE_X9_doLine : Cond.selects yX9_doLine.cls yX9_doLine yX9_doLine ∈ okW := ok_of (tp_2 (q := (yX9_doLine, 12)) (List.mem_of_getElem? (i := 6) rfl)) rfl
theorem wSE_X3_fill : Cond.selects yX3_fill.cls yX3_fill yX3_fill ∈ okW := ok_of (tp_2 (q := (yX3_fill, 12)) (List.mem_of_getElem? (i := 7) rfl)) rfl
theorem wSE_X3_isTrueNow : Cond.selects yX3_isTrueNow.cls yX3_isTrueNow yX3_isTrueNow ∈ okW := ok_of (tp_2 (q := (yX3_isTrueNow, 12)) (List.mem_of_getElem? (i := 8) rfl)) rfl
theorem wSE_X3_isNear : Cond.selects yX3_isNear.cls yX3_isNear yX3_isNear ∈ okW := ok_of (tp_2 (q := (yX3_isNear, 12)) (List.mem_of_getElem? (i := 9) rfl)) rfl
theorem wSE_X3_goOn : Cond.selects yX3_goOn.cls yX3_goOn yX3_goOn ∈ okW := ok_of (tp_2 (q := (yX3_goOn, 12)) (List.mem_of_getElem? (i := 10) rfl)) rfl
theorem wSE_X3_isNearBehind : Cond.selects yX3_isNearBehind.cls yX3_isNearBehind yX3_isNearBehind ∈ okW := ok_of (tp_2 (q := (yX3_isNearBehind, 12)) (List.mem_of_getElem? (i := 11) rfl)) rfl
theorem wSE_X3_isReached : Cond.selects yX3_isReached.cls yX3_isReached yX3_isReached ∈ okW := ok_of (tp_2 (q := (yX3_isReached, 12)) (List.mem_of_getElem? (i := 12) rfl)) rfl
theorem wSE_X3_move : Cond.selects yX3_move.cls yX3_move yX3_move ∈ okW := ok_of (tp_2 (q := (yX3_move, 12)) (List.mem_of_getElem? (i := 13) rfl)) rfl
theorem wSE_X1_fill : Cond.selects yX1_fill.cls yX1_fill yX1_fill ∈ okW := ok_of (tp_2 (q := (yX1_fill, 8)) (List.mem_of_getElem? (i := 14) rfl)) rfl
theorem wSE_X1_unfold : Cond.selects yX1_unfold.cls yX1_unfold yX1_unfold ∈ okW := ok_of (tp_2 (q := (yX1_unfold, 8)) (List.mem_of_getElem? (i := 15) rfl)) rfl
theorem wSE_X1_isHeard : Cond.selects yX1_isHeard.cls yX1_isHeard yX1_isHeard ∈ okW := ok_of (tp_3 (q := (yX1_isHeard, 8)) (List.mem_of_getElem? (i := 0) rfl)) rfl
theorem wSE_X1_toneAt : Cond.selects yX1_toneAt.cls yX1_toneAt yX1_toneAt ∈ okW := ok_of (tp_3 (q := (yX1_toneAt, 8)) (List.mem_of_getElem? (i := 1) rfl)) rfl
theorem wSE_X1_countUnlike : Cond.selects yX1_countUnlike.cls yX1_countUnlike yX1_countUnlike ∈ okW := ok_of (tp_3 (q := (yX1_countUnlike, 8)) (List.mem_of_getElem? (i := 2) rfl)) rfl
theorem wSE_X9_offOf : Cond.selects yX9_offOf.cls yX9_offOf yX9_offOf ∈ okW := ok_of (tp_3 (q := (yX9_offOf, 12)) (List.mem_of_getElem? (i := 3) rfl)) rfl
theorem wSE_X9_driftIn : Cond.selects yX9_driftIn.cls yX9_driftIn yX9_driftIn ∈ okW := ok_of (tp_3 (q := (yX9_driftIn, 12)) (List.mem_of_getElem? (i := 4) rfl)) rfl
theorem wSE_X9_fillLowTones : Cond.selects yX9_fillLowTones.cls yX9_fillLowTones yX9_fillLowTones ∈ okW := ok_of (tp_3 (q := (yX9_fillLowTones, 12)) (List.mem_of_getElem? (i := 5) rfl)) rfl
theorem wSE_X9_apart : Cond.selects yX9_apart.cls yX9_apart yX9_apart ∈ okW := ok_of (tp_3 (q := (yX9_apart, 12)) (List.mem_of_getElem? (i := 6) rfl)) rfl
theorem wSE_X9_suiting : Cond.selects yX9_suiting.cls yX9_suiting yX9_suiting ∈ okW := ok_of (tp_3 (q := (yX9_suiting, 12)) (List.mem_of_getElem? (i := 7) rfl)) rfl
theorem wSE_X9_worst : Cond.selects yX9_worst.cls yX9_worst yX9_worst ∈ okW := ok_of (tp_3 (q := (yX9_worst, 12)) (List.mem_of_getElem? (i := 8) rfl)) rfl
theorem wSE_X9_beatIn : Cond.selects yX9_beatIn.cls yX9_beatIn yX9_beatIn ∈ okW := ok_of (tp_3 (q := (yX9_beatIn, 12)) (List.mem_of_getElem? (i := 9) rfl)) rfl
theorem wSE_X9_together : Cond.selects yX9_together.cls yX9_together yX9_together ∈ okW := ok_of (tp_3 (q := (yX9_together, 12)) (List.mem_of_getElem? (i := 10) rfl)) rfl
theorem wSE_X5_goOn : Cond.selects yX5_goOn.cls yX5_goOn yX5_goOn ∈ okW := ok_of (tp_3 (q := (yX5_goOn, 5)) (List.mem_of_getElem? (i := 11) rfl)) rfl
theorem wSE_X5_ringsTogether : Cond.selects yX5_ringsTogether.cls yX5_ringsTogether yX5_ringsTogether ∈ okW := ok_of (tp_3 (q := (yX5_ringsTogether, 5)) (List.mem_of_getElem? (i := 12) rfl)) rfl
theorem wSE_X9_countLost : Cond.selects yX9_countLost.cls yX9_countLost yX9_countLost ∈ okW := ok_of (tp_3 (q := (yX9_countLost, 12)) (List.mem_of_getElem? (i := 13) rfl)) rfl
theorem wSE_X9_countTrue : Cond.selects yX9_countTrue.cls yX9_countTrue yX9_countTrue ∈ okW := ok_of (tp_3 (q := (yX9_countTrue, 12)) (List.mem_of_getElem? (i := 14) rfl)) rfl
theorem wSE_X10_isIn : Cond.selects yX10_isIn.cls yX10_isIn yX10_isIn ∈ okW := ok_of (tp_3 (q := (yX10_isIn, 74)) (List.mem_of_getElem? (i := 15) rfl)) rfl
theorem wSE_X10_isSlice : Cond.selects yX10_isSlice.cls yX10_isSlice yX10_isSlice ∈ okW := ok_of (tp_4 (q := (yX10_isSlice, 74)) (List.mem_of_getElem? (i := 0) rfl)) rfl
theorem wSE_X10_isBar : Cond.selects yX10_isBar.cls yX10_isBar yX10_isBar ∈ okW := ok_of (tp_4 (q := (yX10_isBar, 74)) (List.mem_of_getElem? (i := 1) rfl)) rfl
theorem wSE_X10_puts : Cond.selects yX10_puts.cls yX10_puts yX10_puts ∈ okW := ok_of (tp_4 (q := (yX10_puts, 74)) (List.mem_of_getElem? (i := 2) rfl)) rfl
theorem wSE_X10_reads : Cond.selects yX10_reads.cls yX10_reads yX10_reads ∈ okW := ok_of (tp_4 (q := (yX10_reads, 74)) (List.mem_of_getElem? (i := 3) rfl)) rfl
theorem wSE_X10_raw : Cond.selects yX10_raw.cls yX10_raw yX10_raw ∈ okW := ok_of (tp_4 (q := (yX10_raw, 74)) (List.mem_of_getElem? (i := 4) rfl)) rfl
theorem wSE_X10_isLetter : Cond.selects yX10_isLetter.cls yX10_isLetter yX10_isLetter ∈ okW := ok_of (tp_4 (q := (yX10_isLetter, 74)) (List.mem_of_getElem? (i := 5) rfl)) rfl
theorem wSE_X10_wordAt : Cond.selects yX10_wordAt.cls yX10_wordAt yX10_wordAt ∈ okW := ok_of (tp_4 (q := (yX10_wordAt, 74)) (List.mem_of_getElem? (i := 6) rfl)) rfl
theorem wSE_X10_isDigit : Cond.selects yX10_isDigit.cls yX10_isDigit yX10_isDigit ∈ okW := ok_of (tp_4 (q := (yX10_isDigit, 74)) (List.mem_of_getElem? (i := 7) rfl)) rfl
theorem wSE_X10_isMarkSign : Cond.selects yX10_isMarkSign.cls yX10_isMarkSign yX10_isMarkSign ∈ okW := ok_of (tp_4 (q := (yX10_isMarkSign, 74)) (List.mem_of_getElem? (i := 8) rfl)) rfl
theorem wSE_X10_readText : Cond.selects yX10_readText.cls yX10_readText yX10_readText ∈ okW := ok_of (tp_4 (q := (yX10_readText, 74)) (List.mem_of_getElem? (i := 9) rfl)) rfl
theorem wSE_X10_isBegin : Cond.selects yX10_isBegin.cls yX10_isBegin yX10_isBegin ∈ okW := ok_of (tp_4 (q := (yX10_isBegin, 74)) (List.mem_of_getElem? (i := 10) rfl)) rfl
theorem wSE_X10_fails : Cond.selects yX10_fails.cls yX10_fails yX10_fails ∈ okW := ok_of (tp_4 (q := (yX10_fails, 74)) (List.mem_of_getElem? (i := 11) rfl)) rfl
theorem wSE_X10_readLine : Cond.selects yX10_readLine.cls yX10_readLine yX10_readLine ∈ okW := ok_of (tp_4 (q := (yX10_readLine, 74)) (List.mem_of_getElem? (i := 12) rfl)) rfl
theorem wSE_X10_readNumbers : Cond.selects yX10_readNumbers.cls yX10_readNumbers yX10_readNumbers ∈ okW := ok_of (tp_4 (q := (yX10_readNumbers, 74)) (List.mem_of_getElem? (i := 13) rfl)) rfl
theorem wSE_X10_readNumber : Cond.selects yX10_readNumber.cls yX10_readNumber yX10_readNumber ∈ okW := ok_of (tp_4 (q := (yX10_readNumber, 74)) (List.mem_of_getElem? (i := 14) rfl)) rfl
theorem wSE_X10_readSum : Cond.selects yX10_readSum.cls yX10_readSum yX10_readSum ∈ okW := ok_of (tp_4 (q := (yX10_readSum, 74)) (List.mem_of_getElem? (i := 15) rfl)) rfl
theorem wSE_X10_readProduct : Cond.selects yX10_readProduct.cls yX10_readProduct yX10_readProduct ∈ okW := ok_of (tp_5 (q := (yX10_readProduct, 74)) (List.mem_of_getElem? (i := 0) rfl)) rfl
theorem wSE_X10_readUnit : Cond.selects yX10_readUnit.cls yX10_readUnit yX10_readUnit ∈ okW := ok_of (tp_5 (q := (yX10_readUnit, 74)) (List.mem_of_getElem? (i := 1) rfl)) rfl
theorem wSE_X10_emits : Cond.selects yX10_emits.cls yX10_emits yX10_emits ∈ okW := ok_of (tp_5 (q := (yX10_emits, 74)) (List.mem_of_getElem? (i := 2) rfl)) rfl
theorem wSE_X10_isSign : Cond.selects yX10_isSign.cls yX10_isSign yX10_isSign ∈ okW := ok_of (tp_5 (q := (yX10_isSign, 74)) (List.mem_of_getElem? (i := 3) rfl)) rfl
theorem wSE_X10_isWord : Cond.selects yX10_isWord.cls yX10_isWord yX10_isWord ∈ okW := ok_of (tp_5 (q := (yX10_isWord, 74)) (List.mem_of_getElem? (i := 4) rfl)) rfl
theorem wSE_X10_readAny : Cond.selects yX10_readAny.cls yX10_readAny yX10_readAny ∈ okW := ok_of (tp_5 (q := (yX10_readAny, 74)) (List.mem_of_getElem? (i := 5) rfl)) rfl
theorem wSE_X10_waits : Cond.selects yX10_waits.cls yX10_waits yX10_waits ∈ okW := ok_of (tp_5 (q := (yX10_waits, 74)) (List.mem_of_getElem? (i := 6) rfl)) rfl
theorem wSE_X10_readCompared : Cond.selects yX10_readCompared.cls yX10_readCompared yX10_readCompared ∈ okW := ok_of (tp_5 (q := (yX10_readCompared, 74)) (List.mem_of_getElem? (i := 7) rfl)) rfl
theorem wSE_X10_settles : Cond.selects yX10_settles.cls yX10_settles yX10_settles ∈ okW := ok_of (tp_5 (q := (yX10_settles, 74)) (List.mem_of_getElem? (i := 8) rfl)) rfl
theorem wSE_X10_isLaw : Cond.selects yX10_isLaw.cls yX10_isLaw yX10_isLaw ∈ okW := ok_of (tp_5 (q := (yX10_isLaw, 74)) (List.mem_of_getElem? (i := 9) rfl)) rfl
theorem wSE_X10_isTone : Cond.selects yX10_isTone.cls yX10_isTone yX10_isTone ∈ okW := ok_of (tp_5 (q := (yX10_isTone, 74)) (List.mem_of_getElem? (i := 10) rfl)) rfl
theorem wSE_X10_asksSlice : Cond.selects yX10_asksSlice.cls yX10_asksSlice yX10_asksSlice ∈ okW := ok_of (tp_5 (q := (yX10_asksSlice, 74)) (List.mem_of_getElem? (i := 11) rfl)) rfl
theorem wSE_X10_asks : Cond.selects yX10_asks.cls yX10_asks yX10_asks ∈ okW := ok_of (tp_5 (q := (yX10_asks, 74)) (List.mem_of_getElem? (i := 12) rfl)) rfl
theorem wSE_X10_size : Cond.selects yX10_size.cls yX10_size yX10_size ∈ okW := ok_of (tp_5 (q := (yX10_size, 74)) (List.mem_of_getElem? (i := 13) rfl)) rfl
theorem wSE_X10_tellsBy : Cond.selects yX10_tellsBy.cls yX10_tellsBy yX10_tellsBy ∈ okW := ok_of (tp_5 (q := (yX10_tellsBy, 74)) (List.mem_of_getElem? (i := 14) rfl)) rfl
theorem wSE_X10_isSo : Cond.selects yX10_isSo.cls yX10_isSo yX10_isSo ∈ okW := ok_of (tp_5 (q := (yX10_isSo, 74)) (List.mem_of_getElem? (i := 15) rfl)) rfl
theorem wSE_X10_worth : Cond.selects yX10_worth.cls yX10_worth yX10_worth ∈ okW := ok_of (tp_6 (q := (yX10_worth, 74)) (List.mem_of_getElem? (i := 0) rfl)) rfl
theorem wSE_X10_twoOf : Cond.selects yX10_twoOf.cls yX10_twoOf yX10_twoOf ∈ okW := ok_of (tp_6 (q := (yX10_twoOf, 74)) (List.mem_of_getElem? (i := 1) rfl)) rfl
theorem wSE_X10_toneNow : Cond.selects yX10_toneNow.cls yX10_toneNow yX10_toneNow ∈ okW := ok_of (tp_6 (q := (yX10_toneNow, 74)) (List.mem_of_getElem? (i := 2) rfl)) rfl
theorem wSE_X10_toneBy : Cond.selects yX10_toneBy.cls yX10_toneBy yX10_toneBy ∈ okW := ok_of (tp_6 (q := (yX10_toneBy, 74)) (List.mem_of_getElem? (i := 3) rfl)) rfl
theorem wSE_X10_canPass : Cond.selects yX10_canPass.cls yX10_canPass yX10_canPass ∈ okW := ok_of (tp_6 (q := (yX10_canPass, 74)) (List.mem_of_getElem? (i := 4) rfl)) rfl
theorem wSE_X10_takesOff : Cond.selects yX10_takesOff.cls yX10_takesOff yX10_takesOff ∈ okW := ok_of (tp_6 (q := (yX10_takesOff, 74)) (List.mem_of_getElem? (i := 5) rfl)) rfl
theorem wSE_X10_isLost : Cond.selects yX10_isLost.cls yX10_isLost yX10_isLost ∈ okW := ok_of (tp_6 (q := (yX10_isLost, 74)) (List.mem_of_getElem? (i := 6) rfl)) rfl
theorem wSE_X10_asksJob : Cond.selects yX10_asksJob.cls yX10_asksJob yX10_asksJob ∈ okW := ok_of (tp_6 (q := (yX10_asksJob, 74)) (List.mem_of_getElem? (i := 7) rfl)) rfl
theorem wSE_X10_doesLine : Cond.selects yX10_doesLine.cls yX10_doesLine yX10_doesLine ∈ okW := ok_of (tp_6 (q := (yX10_doesLine, 74)) (List.mem_of_getElem? (i := 8) rfl)) rfl
theorem wSE_X10_findsFewest : Cond.selects yX10_findsFewest.cls yX10_findsFewest yX10_findsFewest ∈ okW := ok_of (tp_6 (q := (yX10_findsFewest, 74)) (List.mem_of_getElem? (i := 9) rfl)) rfl
theorem wSE_X10_findsTable : Cond.selects yX10_findsTable.cls yX10_findsTable yX10_findsTable ∈ okW := ok_of (tp_6 (q := (yX10_findsTable, 74)) (List.mem_of_getElem? (i := 10) rfl)) rfl
theorem wSE_X10_does : Cond.selects yX10_does.cls yX10_does yX10_does ∈ okW := ok_of (tp_6 (q := (yX10_does, 74)) (List.mem_of_getElem? (i := 11) rfl)) rfl
theorem wSE_X10_wouldBe : Cond.selects yX10_wouldBe.cls yX10_wouldBe yX10_wouldBe ∈ okW := ok_of (tp_6 (q := (yX10_wouldBe, 74)) (List.mem_of_getElem? (i := 12) rfl)) rfl
theorem wSE_X10_toneByTable : Cond.selects yX10_toneByTable.cls yX10_toneByTable yX10_toneByTable ∈ okW := ok_of (tp_6 (q := (yX10_toneByTable, 74)) (List.mem_of_getElem? (i := 13) rfl)) rfl
theorem wSE_X10_goesOn : Cond.selects yX10_goesOn.cls yX10_goesOn yX10_goesOn ∈ okW := ok_of (tp_6 (q := (yX10_goesOn, 74)) (List.mem_of_getElem? (i := 14) rfl)) rfl
theorem wSE_X10_findsFits : Cond.selects yX10_findsFits.cls yX10_findsFits yX10_findsFits ∈ okW := ok_of (tp_6 (q := (yX10_findsFits, 74)) (List.mem_of_getElem? (i := 15) rfl)) rfl
theorem wSE_X10_fitsAll : Cond.selects yX10_fitsAll.cls yX10_fitsAll yX10_fitsAll ∈ okW := ok_of (tp_7 (q := (yX10_fitsAll, 74)) (List.mem_of_getElem? (i := 0) rfl)) rfl
theorem wSE_X10_toneOf : Cond.selects yX10_toneOf.cls yX10_toneOf yX10_toneOf ∈ okW := ok_of (tp_7 (q := (yX10_toneOf, 74)) (List.mem_of_getElem? (i := 1) rfl)) rfl
theorem wSE_X10_nextPass : Cond.selects yX10_nextPass.cls yX10_nextPass yX10_nextPass ∈ okW := ok_of (tp_7 (q := (yX10_nextPass, 74)) (List.mem_of_getElem? (i := 2) rfl)) rfl
theorem wSE_X10_unlikeBy : Cond.selects yX10_unlikeBy.cls yX10_unlikeBy yX10_unlikeBy ∈ okW := ok_of (tp_7 (q := (yX10_unlikeBy, 74)) (List.mem_of_getElem? (i := 3) rfl)) rfl
theorem wSE_X10_sureOf : Cond.selects yX10_sureOf.cls yX10_sureOf yX10_sureOf ∈ okW := ok_of (tp_7 (q := (yX10_sureOf, 74)) (List.mem_of_getElem? (i := 4) rfl)) rfl
theorem wSE_X10_offOf : Cond.selects yX10_offOf.cls yX10_offOf yX10_offOf ∈ okW := ok_of (tp_7 (q := (yX10_offOf, 74)) (List.mem_of_getElem? (i := 5) rfl)) rfl
theorem wSE_X10_stills : Cond.selects yX10_stills.cls yX10_stills yX10_stills ∈ okW := ok_of (tp_7 (q := (yX10_stills, 74)) (List.mem_of_getElem? (i := 6) rfl)) rfl
theorem wSE_X10_isStill : Cond.selects yX10_isStill.cls yX10_isStill yX10_isStill ∈ okW := ok_of (tp_7 (q := (yX10_isStill, 74)) (List.mem_of_getElem? (i := 7) rfl)) rfl
theorem wSE_X10_sways : Cond.selects yX10_sways.cls yX10_sways yX10_sways ∈ okW := ok_of (tp_7 (q := (yX10_sways, 74)) (List.mem_of_getElem? (i := 8) rfl)) rfl
theorem wSE_X10_stillAt : Cond.selects yX10_stillAt.cls yX10_stillAt yX10_stillAt ∈ okW := ok_of (tp_7 (q := (yX10_stillAt, 74)) (List.mem_of_getElem? (i := 9) rfl)) rfl
theorem wSE_X10_isTrue : Cond.selects yX10_isTrue.cls yX10_isTrue yX10_isTrue ∈ okW := ok_of (tp_7 (q := (yX10_isTrue, 74)) (List.mem_of_getElem? (i := 10) rfl)) rfl
theorem wSE_X10_amiss : Cond.selects yX10_amiss.cls yX10_amiss yX10_amiss ∈ okW := ok_of (tp_7 (q := (yX10_amiss, 74)) (List.mem_of_getElem? (i := 11) rfl)) rfl
theorem wSE_X10_isHeat : Cond.selects yX10_isHeat.cls yX10_isHeat yX10_isHeat ∈ okW := ok_of (tp_7 (q := (yX10_isHeat, 74)) (List.mem_of_getElem? (i := 12) rfl)) rfl
theorem wSE_X10_isWet : Cond.selects yX10_isWet.cls yX10_isWet yX10_isWet ∈ okW := ok_of (tp_7 (q := (yX10_isWet, 74)) (List.mem_of_getElem? (i := 13) rfl)) rfl
theorem wSE_X10_beatOf : Cond.selects yX10_beatOf.cls yX10_beatOf yX10_beatOf ∈ okW := ok_of (tp_7 (q := (yX10_beatOf, 74)) (List.mem_of_getElem? (i := 14) rfl)) rfl
theorem wSE_X10_sounds : Cond.selects yX10_sounds.cls yX10_sounds yX10_sounds ∈ okW := ok_of (tp_7 (q := (yX10_sounds, 74)) (List.mem_of_getElem? (i := 15) rfl)) rfl
theorem wSE_X10_drifted : Cond.selects yX10_drifted.cls yX10_drifted yX10_drifted ∈ okW := ok_of (tp_8 (q := (yX10_drifted, 74)) (List.mem_of_getElem? (i := 0) rfl)) rfl
theorem wSE_X10_suits : Cond.selects yX10_suits.cls yX10_suits yX10_suits ∈ okW := ok_of (tp_8 (q := (yX10_suits, 74)) (List.mem_of_getElem? (i := 1) rfl)) rfl
theorem wSE_X10_worstBeat : Cond.selects yX10_worstBeat.cls yX10_worstBeat yX10_worstBeat ∈ okW := ok_of (tp_8 (q := (yX10_worstBeat, 74)) (List.mem_of_getElem? (i := 2) rfl)) rfl
theorem wSE_X10_worstOf : Cond.selects yX10_worstOf.cls yX10_worstOf yX10_worstOf ∈ okW := ok_of (tp_8 (q := (yX10_worstOf, 74)) (List.mem_of_getElem? (i := 3) rfl)) rfl
theorem wSE_X10_together : Cond.selects yX10_together.cls yX10_together yX10_together ∈ okW := ok_of (tp_8 (q := (yX10_together, 74)) (List.mem_of_getElem? (i := 4) rfl)) rfl
theorem wSE_X10_leastWaste : Cond.selects yX10_leastWaste.cls yX10_leastWaste yX10_leastWaste ∈ okW := ok_of (tp_8 (q := (yX10_leastWaste, 74)) (List.mem_of_getElem? (i := 5) rfl)) rfl
theorem wSE_X10_canHave : Cond.selects yX10_canHave.cls yX10_canHave yX10_canHave ∈ okW := ok_of (tp_8 (q := (yX10_canHave, 74)) (List.mem_of_getElem? (i := 6) rfl)) rfl
theorem wSE_X10_kept : Cond.selects yX10_kept.cls yX10_kept yX10_kept ∈ okW := ok_of (tp_8 (q := (yX10_kept, 74)) (List.mem_of_getElem? (i := 7) rfl)) rfl
theorem wSE_X10_keepsBars : Cond.selects yX10_keepsBars.cls yX10_keepsBars yX10_keepsBars ∈ okW := ok_of (tp_8 (q := (yX10_keepsBars, 74)) (List.mem_of_getElem? (i := 8) rfl)) rfl
theorem wSE_X10_keepsTaps : Cond.selects yX10_keepsTaps.cls yX10_keepsTaps yX10_keepsTaps ∈ okW := ok_of (tp_8 (q := (yX10_keepsTaps, 74)) (List.mem_of_getElem? (i := 9) rfl)) rfl
theorem wSE_X10_keepsTexts : Cond.selects yX10_keepsTexts.cls yX10_keepsTexts yX10_keepsTexts ∈ okW := ok_of (tp_8 (q := (yX10_keepsTexts, 74)) (List.mem_of_getElem? (i := 10) rfl)) rfl
theorem wSE_X10_barsThat : Cond.selects yX10_barsThat.cls yX10_barsThat yX10_barsThat ∈ okW := ok_of (tp_8 (q := (yX10_barsThat, 74)) (List.mem_of_getElem? (i := 11) rfl)) rfl
theorem lyX0 : ∀ k, k < 18 → u_lay RX0 TX0 k ∈ okW := fun k hk => match k, hk with
  | 0, _ => wLY_0_0
  | 1, _ => wLY_0_1
  | 2, _ => wLY_0_2
  | 3, _ => wLY_0_3
  | 4, _ => wLY_0_4
  | 5, _ => wLY_0_5
  | 6, _ => wLY_0_6
  | 7, _ => wLY_0_7
  | 8, _ => wLY_0_8
  | 9, _ => wLY_0_9
  | 10, _ => wLY_0_10
  | 11, _ => wLY_0_11
  | 12, _ => wLY_0_12
  | 13, _ => wLY_0_13
  | 14, _ => wLY_0_14
  | 15, _ => wLY_0_15
  | 16, _ => wLY_0_16
  | 17, _ => wLY_0_17
  | k + 18, h => absurd h (by omega)
theorem inX0 : ∀ w ∈ u_ws RX0 TX0 18, w ∈ okW := by
  intro w hw
  obtain ⟨k, hk, rfl⟩ := List.mem_map.mp hw
  exact lyX0 k (List.mem_range.mp hk)
theorem lyX1 : ∀ k, k < 8 → u_lay RX1 TX1 k ∈ okW := fun k hk => match k, hk with
  | 0, _ => wLY_1_0
  | 1, _ => wLY_1_1
  | 2, _ => wLY_1_2
  | 3, _ => wLY_1_3
  | 4, _ => wLY_1_4
  | 5, _ => wLY_1_5
  | 6, _ => wLY_1_6
  | 7, _ => wLY_1_7
  | k + 8, h => absurd h (by omega)
theorem inX1 : ∀ w ∈ u_ws RX1 TX1 8, w ∈ okW := by
  intro w hw
  obtain ⟨k, hk, rfl⟩ := List.mem_map.mp hw
  exact lyX1 k (List.mem_range.mp hk)
theorem lyX2 : ∀ k, k < 2 → u_lay RX2 TX2 k ∈ okW := fun k hk => match k, hk with
  | 0, _ => wLY_2_0
  | 1, _ => wLY_2_1
  | k + 2, h => absurd h (by omega)
theorem inX2 : ∀ w ∈ u_ws RX2 TX2 2, w ∈ okW := by
  intro w hw
  obtain ⟨k, hk, rfl⟩ := List.mem_map.mp hw
  exact lyX2 k (List.mem_range.mp hk)
theorem lyX3 : ∀ k, k < 12 → u_lay RX3 TX3 k ∈ okW := fun k hk => match k, hk with
  | 0, _ => wLY_3_0
  | 1, _ => wLY_3_1
  | 2, _ => wLY_3_2
  | 3, _ => wLY_3_3
  | 4, _ => wLY_3_4
  | 5, _ => wLY_3_5
  | 6, _ => wLY_3_6
  | 7, _ => wLY_3_7
  | 8, _ => wLY_3_8
  | 9, _ => wLY_3_9
  | 10, _ => wLY_3_10
  | 11, _ => wLY_3_11
  | k + 12, h => absurd h (by omega)
theorem inX3 : ∀ w ∈ u_ws RX3 TX3 12, w ∈ okW := by
  intro w hw
  obtain ⟨k, hk, rfl⟩ := List.mem_map.mp hw
  exact lyX3 k (List.mem_range.mp hk)
theorem lyX4 : ∀ k, k < 9 → u_lay RX4 TX4 k ∈ okW := fun k hk => match k, hk with
  | 0, _ => wLY_4_0
  | 1, _ => wLY_4_1
  | 2, _ => wLY_4_2
  | 3, _ => wLY_4_3
  | 4, _ => wLY_4_4
  | 5, _ => wLY_4_5
  | 6, _ => wLY_4_6
  | 7, _ => wLY_4_7
  | 8, _ => wLY_4_8
  | k + 9, h => absurd h (by omega)
theorem inX4 : ∀ w ∈ u_ws RX4 TX4 9, w ∈ okW := by
  intro w hw
  obtain ⟨k, hk, rfl⟩ := List.mem_map.mp hw
  exact lyX4 k (List.mem_range.mp hk)
theorem lyX5 : ∀ k, k < 5 → u_lay RX5 TX5 k ∈ okW := fun k hk => match k, hk with
  | 0, _ => wLY_5_0
  | 1, _ => wLY_5_1
  | 2, _ => wLY_5_2
  | 3, _ => wLY_5_3
  | 4, _ => wLY_5_4
  | k + 5, h => absurd h (by omega)
theorem inX5 : ∀ w ∈ u_ws RX5 TX5 5, w ∈ okW := by
  intro w hw
  obtain ⟨k, hk, rfl⟩ := List.mem_map.mp hw
  exact lyX5 k (List.mem_range.mp hk)
theorem lyX6 : ∀ k, k < 2 → u_lay RX6 TX6 k ∈ okW := fun k hk => match k, hk with
  | 0, _ => wLY_6_0
  | 1, _ => wLY_6_1
  | k + 2, h => absurd h (by omega)
theorem inX6 : ∀ w ∈ u_ws RX6 TX6 2, w ∈ okW := by
  intro w hw
  obtain ⟨k, hk, rfl⟩ := List.mem_map.mp hw
  exact lyX6 k (List.mem_range.mp hk)
theorem lyX7 : ∀ k, k < 10 → u_lay RX7 TX7 k ∈ okW := fun k hk => match k, hk with
  | 0, _ => wLY_7_0
  | 1, _ => wLY_7_1
  | 2, _ => wLY_7_2
  | 3, _ => wLY_7_3
  | 4, _ => wLY_7_4
  | 5, _ => wLY_7_5
  | 6, _ => wLY_7_6
  | 7, _ => wLY_7_7
  | 8, _ => wLY_7_8
  | 9, _ => wLY_7_9
  | k + 10, h => absurd h (by omega)
theorem inX7 : ∀ w ∈ u_ws RX7 TX7 10, w ∈ okW := by
  intro w hw
  obtain ⟨k, hk, rfl⟩ := List.mem_map.mp hw
  exact lyX7 k (List.mem_range.mp hk)
theorem lyX8 : ∀ k, k < 17 → u_lay RX8 TX8 k ∈ okW := fun k hk => match k, hk with
  | 0, _ => wLY_8_0
  | 1, _ => wLY_8_1
  | 2, _ => wLY_8_2
  | 3, _ => wLY_8_3
  | 4, _ => wLY_8_4
  | 5, _ => wLY_8_5
  | 6, _ => wLY_8_6
  | 7, _ => wLY_8_7
  | 8, _ => wLY_8_8
  | 9, _ => wLY_8_9
  | 10, _ => wLY_8_10
  | 11, _ => wLY_8_11
  | 12, _ => wLY_8_12
  | 13, _ => wLY_8_13
  | 14, _ => wLY_8_14
  | 15, _ => wLY_8_15
  | 16, _ => wLY_8_16
  | k + 17, h => absurd h (by omega)
theorem inX8 : ∀ w ∈ u_ws RX8 TX8 17, w ∈ okW := by
  intro w hw
  obtain ⟨k, hk, rfl⟩ := List.mem_map.mp hw
  exact lyX8 k (List.mem_range.mp hk)
theorem lyX9 : ∀ k, k < 12 → u_lay RX9 TX9 k ∈ okW := fun k hk => match k, hk with
  | 0, _ => wLY_9_0
  | 1, _ => wLY_9_1
  | 2, _ => wLY_9_2
  | 3, _ => wLY_9_3
  | 4, _ => wLY_9_4
  | 5, _ => wLY_9_5
  | 6, _ => wLY_9_6
  | 7, _ => wLY_9_7
  | 8, _ => wLY_9_8
  | 9, _ => wLY_9_9
  | 10, _ => wLY_9_10
  | 11, _ => wLY_9_11
  | k + 12, h => absurd h (by omega)
theorem inX9 : ∀ w ∈ u_ws RX9 TX9 12, w ∈ okW := by
  intro w hw
  obtain ⟨k, hk, rfl⟩ := List.mem_map.mp hw
  exact lyX9 k (List.mem_range.mp hk)
theorem lyX10 : ∀ k, k < 74 → u_lay RX10 TX10 k ∈ okW := fun k hk => match k, hk with
  | 0, _ => wLY_10_0
  | 1, _ => wLY_10_1
  | 2, _ => wLY_10_2
  | 3, _ => wLY_10_3
  | 4, _ => wLY_10_4
  | 5, _ => wLY_10_5
  | 6, _ => wLY_10_6
  | 7, _ => wLY_10_7
  | 8, _ => wLY_10_8
  | 9, _ => wLY_10_9
  | 10, _ => wLY_10_10
  | 11, _ => wLY_10_11
  | 12, _ => wLY_10_12
  | 13, _ => wLY_10_13
  | 14, _ => wLY_10_14
  | 15, _ => wLY_10_15
  | 16, _ => wLY_10_16
  | 17, _ => wLY_10_17
  | 18, _ => wLY_10_18
  | 19, _ => wLY_10_19
  | 20, _ => wLY_10_20
  | 21, _ => wLY_10_21
  | 22, _ => wLY_10_22
  | 23, _ => wLY_10_23
  | 24, _ => wLY_10_24
  | 25, _ => wLY_10_25
  | 26, _ => wLY_10_26
  | 27, _ => wLY_10_27
  | 28, _ => wLY_10_28
  | 29, _ => wLY_10_29
  | 30, _ => wLY_10_30
  | 31, _ => wLY_10_31
  | 32, _ => wLY_10_32
  | 33, _ => wLY_10_33
  | 34, _ => wLY_10_34
  | 35, _ => wLY_10_35
  | 36, _ => wLY_10_36
  | 37, _ => wLY_10_37
  | 38, _ => wLY_10_38
  | 39, _ => wLY_10_39
  | 40, _ => wLY_10_40
  | 41, _ => wLY_10_41
  | 42, _ => wLY_10_42
  | 43, _ => wLY_10_43
  | 44, _ => wLY_10_44
  | 45, _ => wLY_10_45
  | 46, _ => wLY_10_46
  | 47, _ => wLY_10_47
  | 48, _ => wLY_10_48
  | 49, _ => wLY_10_49
  | 50, _ => wLY_10_50
  | 51, _ => wLY_10_51
  | 52, _ => wLY_10_52
  | 53, _ => wLY_10_53
  | 54, _ => wLY_10_54
  | 55, _ => wLY_10_55
  | 56, _ => wLY_10_56
  | 57, _ => wLY_10_57
  | 58, _ => wLY_10_58
  | 59, _ => wLY_10_59
  | 60, _ => wLY_10_60
  | 61, _ => wLY_10_61
  | 62, _ => wLY_10_62
  | 63, _ => wLY_10_63
  | 64, _ => wLY_10_64
  | 65, _ => wLY_10_65
  | 66, _ => wLY_10_66
  | 67, _ => wLY_10_67
  | 68, _ => wLY_10_68
  | 69, _ => wLY_10_69
  | 70, _ => wLY_10_70
  | 71, _ => wLY_10_71
  | 72, _ => wLY_10_72
  | 73, _ => wLY_10_73
  | k + 74, h => absurd h (by omega)
theorem inX10 : ∀ w ∈ u_ws RX10 TX10 74, w ∈ okW := by
  intro w hw
  obtain ⟨k, hk, rfl⟩ := List.mem_map.mp hw
  exact lyX10 k (List.mem_range.mp hk)
end
section
theorem yo_X9_init : YI yX9_init cX9_init 1 0 := ⟨wIM_X9_init, wIN_X9, wCD_X9_init, by decide +kernel, by decide +kernel, by decide +kernel⟩
theorem yo_X8_init : YI yX8_init cX8_init 2 0 := ⟨wIM_X8_init, wIN_X8, wCD_X8_init, by decide +kernel, by decide +kernel, by decide +kernel⟩
theorem yo_X0_init : YI yX0_init cX0_init 1 0 := ⟨wIM_X0_init, wIN_X0, wCD_X0_init, by decide +kernel, by decide +kernel, by decide +kernel⟩
theorem yo_X7_init : YI yX7_init cX7_init 1 0 := ⟨wIM_X7_init, wIN_X7, wCD_X7_init, by decide +kernel, by decide +kernel, by decide +kernel⟩
theorem yo_X4_init : YI yX4_init cX4_init 1 0 := ⟨wIM_X4_init, wIN_X4, wCD_X4_init, by decide +kernel, by decide +kernel, by decide +kernel⟩
theorem yo_X6_init : YI yX6_init cX6_init 1 0 := ⟨wIM_X6_init, wIN_X6, wCD_X6_init, by decide +kernel, by decide +kernel, by decide +kernel⟩
theorem yo_X3_init : YI yX3_init cX3_init 1 0 := ⟨wIM_X3_init, wIN_X3, wCD_X3_init, by decide +kernel, by decide +kernel, by decide +kernel⟩
theorem yo_X2_init : YI yX2_init cX2_init 1 0 := ⟨wIM_X2_init, wIN_X2, wCD_X2_init, by decide +kernel, by decide +kernel, by decide +kernel⟩
theorem yo_X1_init : YI yX1_init cX1_init 1 0 := ⟨wIM_X1_init, wIN_X1, wCD_X1_init, by decide +kernel, by decide +kernel, by decide +kernel⟩
theorem yo_X5_init : YI yX5_init cX5_init 1 0 := ⟨wIM_X5_init, wIN_X5, wCD_X5_init, by decide +kernel, by decide +kernel, by decide +kernel⟩
theorem yo_X9_bar : YV yX9_bar cX9_bar 2 (some .int) 1 := ⟨wIM_X9_bar, wSE_X9_bar, wIN_X9, wCD_X9_bar, by decide +kernel, by decide +kernel, by decide +kernel⟩
theorem yo_X0_begin : YV yX0_begin cX0_begin 2 none 1 := ⟨wIM_X0_begin, wSE_X0_begin, wIN_X0, wCD_X0_begin, by decide +kernel, by decide +kernel, by decide +kernel⟩
theorem yo_J7_fill_53178 : YS yJ7_fill_53178 cJ7_fill_53178 4 none 2 := ⟨wST_J7_fill_53178, wIN_J7, wCD_J7_fill_53178, by decide +kernel, by decide +kernel, by decide +kernel⟩
theorem yo_X9_slice : YV yX9_slice cX9_slice 7 (some .boolean) 5 := ⟨wIM_X9_slice, wSE_X9_slice, wIN_X9, wCD_X9_slice, by decide +kernel, by decide +kernel, by decide +kernel⟩
theorem yo_X9_barAt : YV yX9_barAt cX9_barAt 2 (some (.object "RingBars$Bar")) 1 := ⟨wIM_X9_barAt, wSE_X9_barAt, wIN_X9, wCD_X9_barAt, by decide +kernel, by decide +kernel, by decide +kernel⟩
theorem yo_X9_within : YS yX9_within cX9_within 3 (some .boolean) 3 := ⟨wST_X9_within, wIN_X9, wCD_X9_within, by decide +kernel, by decide +kernel, by decide +kernel⟩
theorem yo_X0_has : YV yX0_has cX0_has 2 (some .boolean) 1 := ⟨wIM_X0_has, wSE_X0_has, wIN_X0, wCD_X0_has, by decide +kernel, by decide +kernel, by decide +kernel⟩
theorem yo_X9_wax : YV yX9_wax cX9_wax 5 (some .boolean) 3 := ⟨wIM_X9_wax, wSE_X9_wax, wIN_X9, wCD_X9_wax, by decide +kernel, by decide +kernel, by decide +kernel⟩
theorem yo_X9_of : YV yX9_of cX9_of 5 (some .int) 3 := ⟨wIM_X9_of, wSE_X9_of, wIN_X9, wCD_X9_of, by decide +kernel, by decide +kernel, by decide +kernel⟩
theorem yo_X9_feed : YV yX9_feed cX9_feed 6 (some .int) 5 := ⟨wIM_X9_feed, wSE_X9_feed, wIN_X9, wCD_X9_feed, by decide +kernel, by decide +kernel, by decide +kernel⟩
theorem yo_X9_addBytes : YV yX9_addBytes cX9_addBytes 3 none 1 := ⟨wIM_X9_addBytes, wSE_X9_addBytes, wIN_X9, wCD_X9_addBytes, by decide +kernel, by decide +kernel, by decide +kernel⟩
theorem yo_X9_end : YV yX9_end cX9_end 2 (some .boolean) 1 := ⟨wIM_X9_end, wSE_X9_end, wIN_X9, wCD_X9_end, by decide +kernel, by decide +kernel, by decide +kernel⟩
theorem yo_X9_text : YV yX9_text cX9_text 6 (some .int) 2 := ⟨wIM_X9_text, wSE_X9_text, wIN_X9, wCD_X9_text, by decide +kernel, by decide +kernel, by decide +kernel⟩
theorem yo_X9_textAt : YV yX9_textAt cX9_textAt 3 (some (.object "RingBars$Text")) 2 := ⟨wIM_X9_textAt, wSE_X9_textAt, wIN_X9, wCD_X9_textAt, by decide +kernel, by decide +kernel, by decide +kernel⟩
theorem yo_X4_start : YV yX4_start cX4_start 7 none 3 := ⟨wIM_X4_start, wSE_X4_start, wIN_X4, wCD_X4_start, by decide +kernel, by decide +kernel, by decide +kernel⟩
theorem yo_X7_clear : YV yX7_clear cX7_clear 1 none 0 := ⟨wIM_X7_clear, wSE_X7_clear, wIN_X7, wCD_X7_clear, by decide +kernel, by decide +kernel, by decide +kernel⟩
theorem yo_X4_isLetter : YS yX4_isLetter cX4_isLetter 1 (some .boolean) 1 := ⟨wST_X4_isLetter, wIN_X4, wCD_X4_isLetter, by decide +kernel, by decide +kernel, by decide +kernel⟩
theorem yo_X4_wordAt : YS yX4_wordAt cX4_wordAt 4 (some .int) 3 := ⟨wST_X4_wordAt, wIN_X4, wCD_X4_wordAt, by decide +kernel, by decide +kernel, by decide +kernel⟩
theorem yo_X4_isWord : YS yX4_isWord cX4_isWord 6 (some .boolean) 4 := ⟨wST_X4_isWord, wIN_X4, wCD_X4_isWord, by decide +kernel, by decide +kernel, by decide +kernel⟩
theorem yo_J0_charAt_5068e : YV yJ0_charAt_5068e cJ0_charAt_5068e 2 (some .char) 1 := ⟨wIM_J0_charAt_5068e, wSE_J0_charAt_5068e, wIN_J0, wCD_J0_charAt_5068e, by decide +kernel, by decide +kernel, by decide +kernel⟩
theorem yo_J0_isLatin1_aae02 : YV yJ0_isLatin1_aae02 cJ0_isLatin1_aae02 1 (some .boolean) 0 := ⟨wIM_J0_isLatin1_aae02, wSE_J0_isLatin1_aae02, wIN_J0, wCD_J0_isLatin1_aae02, by decide +kernel, by decide +kernel, by decide +kernel⟩
theorem yo_J1_charAt_3b067 : YS yJ1_charAt_3b067 cJ1_charAt_3b067 2 (some .char) 2 := ⟨wST_J1_charAt_3b067, wIN_J1, wCD_J1_charAt_3b067, by decide +kernel, by decide +kernel, by decide +kernel⟩
theorem yo_J0_checkIndex_df160 : YS yJ0_checkIndex_df160 cJ0_checkIndex_df160 2 none 2 := ⟨wST_J0_checkIndex_df160, wIN_J0, wCD_J0_checkIndex_df160, by decide +kernel, by decide +kernel, by decide +kernel⟩
theorem yo_J3_checkIndex_8e157 : YS yJ3_checkIndex_8e157 cJ3_checkIndex_8e157 3 (some .int) 3 := ⟨wST_J3_checkIndex_8e157, wIN_J3, wCD_J3_checkIndex_8e157, by decide +kernel, by decide +kernel, by decide +kernel⟩
theorem yo_J2_charAt_3b067 : YS yJ2_charAt_3b067 cJ2_charAt_3b067 2 (some .char) 2 := ⟨wST_J2_charAt_3b067, wIN_J2, wCD_J2_charAt_3b067, by decide +kernel, by decide +kernel, by decide +kernel⟩
theorem yo_J2_checkIndex_2214a : YS yJ2_checkIndex_2214a cJ2_checkIndex_2214a 2 none 2 := ⟨wST_J2_checkIndex_2214a, wIN_J2, wCD_J2_checkIndex_2214a, by decide +kernel, by decide +kernel, by decide +kernel⟩
theorem yo_J2_length_9d52b : YS yJ2_length_9d52b cJ2_length_9d52b 1 (some .int) 1 := ⟨wST_J2_length_9d52b, wIN_J2, wCD_J2_length_9d52b, by decide +kernel, by decide +kernel, by decide +kernel⟩
theorem yo_J2_getChar_3b067 : YS yJ2_getChar_3b067 cJ2_getChar_3b067 2 (some .char) 2 := ⟨wST_J2_getChar_3b067, wIN_J2, wCD_J2_getChar_3b067, by decide +kernel, by decide +kernel, by decide +kernel⟩
theorem yo_X4_addToken : YV yX4_addToken cX4_addToken 4 none 3 := ⟨wIM_X4_addToken, wSE_X4_addToken, wIN_X4, wCD_X4_addToken, by decide +kernel, by decide +kernel, by decide +kernel⟩
theorem yo_X4_isDigit : YS yX4_isDigit cX4_isDigit 1 (some .boolean) 1 := ⟨wST_X4_isDigit, wIN_X4, wCD_X4_isDigit, by decide +kernel, by decide +kernel, by decide +kernel⟩
theorem yo_X4_numberAt : YS yX4_numberAt cX4_numberAt 5 (some .int) 3 := ⟨wST_X4_numberAt, wIN_X4, wCD_X4_numberAt, by decide +kernel, by decide +kernel, by decide +kernel⟩
theorem yo_X4_isSign : YS yX4_isSign cX4_isSign 1 (some .boolean) 1 := ⟨wST_X4_isSign, wIN_X4, wCD_X4_isSign, by decide +kernel, by decide +kernel, by decide +kernel⟩
theorem yo_X4_goesOn : YV yX4_goesOn cX4_goesOn 1 (some .boolean) 0 := ⟨wIM_X4_goesOn, wSE_X4_goesOn, wIN_X4, wCD_X4_goesOn, by decide +kernel, by decide +kernel, by decide +kernel⟩
theorem yo_X4_line : YV yX4_line cX4_line 3 (some .boolean) 0 := ⟨wIM_X4_line, wSE_X4_line, wIN_X4, wCD_X4_line, by decide +kernel, by decide +kernel, by decide +kernel⟩
theorem yo_X4_refuse : YV yX4_refuse cX4_refuse 2 (some .boolean) 1 := ⟨wIM_X4_refuse, wSE_X4_refuse, wIN_X4, wCD_X4_refuse, by decide +kernel, by decide +kernel, by decide +kernel⟩
theorem yo_X4_lawHead : YV yX4_lawHead cX4_lawHead 3 (some .boolean) 2 := ⟨wIM_X4_lawHead, wSE_X4_lawHead, wIN_X4, wCD_X4_lawHead, by decide +kernel, by decide +kernel, by decide +kernel⟩
theorem yo_X4_number : YV yX4_number cX4_number 3 (some .boolean) 2 := ⟨wIM_X4_number, wSE_X4_number, wIN_X4, wCD_X4_number, by decide +kernel, by decide +kernel, by decide +kernel⟩
theorem yo_X4_sum : YV yX4_sum cX4_sum 3 (some .boolean) 0 := ⟨wIM_X4_sum, wSE_X4_sum, wIN_X4, wCD_X4_sum, by decide +kernel, by decide +kernel, by decide +kernel⟩
theorem yo_X4_term : YV yX4_term cX4_term 5 (some .boolean) 0 := ⟨wIM_X4_term, wSE_X4_term, wIN_X4, wCD_X4_term, by decide +kernel, by decide +kernel, by decide +kernel⟩
theorem yo_X4_isUnit : YV yX4_isUnit cX4_isUnit 2 (some .boolean) 1 := ⟨wIM_X4_isUnit, wSE_X4_isUnit, wIN_X4, wCD_X4_isUnit, by decide +kernel, by decide +kernel, by decide +kernel⟩
theorem yo_X7_addStep : YV yX7_addStep cX7_addStep 3 none 2 := ⟨wIM_X7_addStep, wSE_X7_addStep, wIN_X7, wCD_X7_addStep, by decide +kernel, by decide +kernel, by decide +kernel⟩
theorem yo_X4_jobHead : YV yX4_jobHead cX4_jobHead 3 (some .boolean) 2 := ⟨wIM_X4_jobHead, wSE_X4_jobHead, wIN_X4, wCD_X4_jobHead, by decide +kernel, by decide +kernel, by decide +kernel⟩
theorem yo_X4_either : YV yX4_either cX4_either 3 (some .boolean) 1 := ⟨wIM_X4_either, wSE_X4_either, wIN_X4, wCD_X4_either, by decide +kernel, by decide +kernel, by decide +kernel⟩
theorem yo_X4_both : YV yX4_both cX4_both 3 (some .boolean) 1 := ⟨wIM_X4_both, wSE_X4_both, wIN_X4, wCD_X4_both, by decide +kernel, by decide +kernel, by decide +kernel⟩
theorem yo_X4_part : YV yX4_part cX4_part 4 (some .boolean) 1 := ⟨wIM_X4_part, wSE_X4_part, wIN_X4, wCD_X4_part, by decide +kernel, by decide +kernel, by decide +kernel⟩
theorem yo_X4_opened : YV yX4_opened cX4_opened 3 (some .boolean) 2 := ⟨wIM_X4_opened, wSE_X4_opened, wIN_X4, wCD_X4_opened, by decide +kernel, by decide +kernel, by decide +kernel⟩
theorem yo_X7_copyFrom : YV yX7_copyFrom cX7_copyFrom 2 none 1 := ⟨wIM_X7_copyFrom, wSE_X7_copyFrom, wIN_X7, wCD_X7_copyFrom, by decide +kernel, by decide +kernel, by decide +kernel⟩
theorem yo_X9_fault : YV yX9_fault cX9_fault 2 (some .int) 1 := ⟨wIM_X9_fault, wSE_X9_fault, wIN_X9, wCD_X9_fault, by decide +kernel, by decide +kernel, by decide +kernel⟩
theorem yo_X9_force : YV yX9_force cX9_force 3 (some .int) 1 := ⟨wIM_X9_force, wSE_X9_force, wIN_X9, wCD_X9_force, by decide +kernel, by decide +kernel, by decide +kernel⟩
theorem yo_X9_tells : YV yX9_tells cX9_tells 7 (some .int) 5 := ⟨wIM_X9_tells, wSE_X9_tells, wIN_X9, wCD_X9_tells, by decide +kernel, by decide +kernel, by decide +kernel⟩
theorem yo_X9_isTone : YS yX9_isTone cX9_isTone 1 (some .boolean) 1 := ⟨wST_X9_isTone, wIN_X9, wCD_X9_isTone, by decide +kernel, by decide +kernel, by decide +kernel⟩
theorem yo_X6_seeSlice : YV yX6_seeSlice cX6_seeSlice 6 none 5 := ⟨wIM_X6_seeSlice, wSE_X6_seeSlice, wIN_X6, wCD_X6_seeSlice, by decide +kernel, by decide +kernel, by decide +kernel⟩
theorem yo_J9_abs_0f7a4 : YS yJ9_abs_0f7a4 cJ9_abs_0f7a4 1 (some .int) 1 := ⟨wST_J9_abs_0f7a4, wIN_J9, wCD_J9_abs_0f7a4, by decide +kernel, by decide +kernel, by decide +kernel⟩
theorem yo_J9_min_7cf53 : YS yJ9_min_7cf53 cJ9_min_7cf53 2 (some .int) 2 := ⟨wST_J9_min_7cf53, wIN_J9, wCD_J9_min_7cf53, by decide +kernel, by decide +kernel, by decide +kernel⟩
theorem yo_X6_told : YV yX6_told cX6_told 6 (some .int) 3 := ⟨wIM_X6_told, wSE_X6_told, wIN_X6, wCD_X6_told, by decide +kernel, by decide +kernel, by decide +kernel⟩
theorem yo_X7_hasWhen : YV yX7_hasWhen cX7_hasWhen 2 (some .boolean) 1 := ⟨wIM_X7_hasWhen, wSE_X7_hasWhen, wIN_X7, wCD_X7_hasWhen, by decide +kernel, by decide +kernel, by decide +kernel⟩
theorem yo_X6_value : YV yX6_value cX6_value 9 (some .int) 3 := ⟨wIM_X6_value, wSE_X6_value, wIN_X6, wCD_X6_value, by decide +kernel, by decide +kernel, by decide +kernel⟩
theorem yo_X6_joined : YS yX6_joined cX6_joined 3 (some .int) 3 := ⟨wST_X6_joined, wIN_X6, wCD_X6_joined, by decide +kernel, by decide +kernel, by decide +kernel⟩
theorem yo_J9_max_7cf53 : YS yJ9_max_7cf53 cJ9_max_7cf53 2 (some .int) 2 := ⟨wST_J9_max_7cf53, wIN_J9, wCD_J9_max_7cf53, by decide +kernel, by decide +kernel, by decide +kernel⟩
theorem yo_X9_tone : YV yX9_tone cX9_tone 4 (some .int) 2 := ⟨wIM_X9_tone, wSE_X9_tone, wIN_X9, wCD_X9_tone, by decide +kernel, by decide +kernel, by decide +kernel⟩
theorem yo_X9_toneNow : YV yX9_toneNow cX9_toneNow 3 (some .int) 2 := ⟨wIM_X9_toneNow, wSE_X9_toneNow, wIN_X9, wCD_X9_toneNow, by decide +kernel, by decide +kernel, by decide +kernel⟩
theorem yo_X8_law : YV yX8_law cX8_law 1 (some (.object "RingBars$Text")) 0 := ⟨wIM_X8_law, wSE_X8_law, wIN_X8, wCD_X8_law, by decide +kernel, by decide +kernel, by decide +kernel⟩
theorem yo_X6_toneOf : YV yX6_toneOf cX6_toneOf 10 (some .int) 6 := ⟨wIM_X6_toneOf, wSE_X6_toneOf, wIN_X6, wCD_X6_toneOf, by decide +kernel, by decide +kernel, by decide +kernel⟩
theorem yo_X9_ratio : YS yX9_ratio cX9_ratio 2 (some .int) 2 := ⟨wST_X9_ratio, wIN_X9, wCD_X9_ratio, by decide +kernel, by decide +kernel, by decide +kernel⟩
theorem yo_X9_shave : YV yX9_shave cX9_shave 5 (some .int) 3 := ⟨wIM_X9_shave, wSE_X9_shave, wIN_X9, wCD_X9_shave, by decide +kernel, by decide +kernel, by decide +kernel⟩
theorem yo_X9_takeOff : YV yX9_takeOff cX9_takeOff 4 (some .int) 3 := ⟨wIM_X9_takeOff, wSE_X9_takeOff, wIN_X9, wCD_X9_takeOff, by decide +kernel, by decide +kernel, by decide +kernel⟩
theorem yo_X9_isLost : YV yX9_isLost cX9_isLost 3 (some .boolean) 1 := ⟨wIM_X9_isLost, wSE_X9_isLost, wIN_X9, wCD_X9_isLost, by decide +kernel, by decide +kernel, by decide +kernel⟩
theorem yo_X9_pass : YV yX9_pass cX9_pass 5 (some .int) 3 := ⟨wIM_X9_pass, wSE_X9_pass, wIN_X9, wCD_X9_pass, by decide +kernel, by decide +kernel, by decide +kernel⟩
theorem yo_X9_goal : YV yX9_goal cX9_goal 5 (some .boolean) 3 := ⟨wIM_X9_goal, wSE_X9_goal, wIN_X9, wCD_X9_goal, by decide +kernel, by decide +kernel, by decide +kernel⟩
theorem yo_X9_slack : YV yX9_slack cX9_slack 2 (some .boolean) 1 := ⟨wIM_X9_slack, wSE_X9_slack, wIN_X9, wCD_X9_slack, by decide +kernel, by decide +kernel, by decide +kernel⟩
theorem yo_X9_state : YV yX9_state cX9_state 4 (some .int) 2 := ⟨wIM_X9_state, wSE_X9_state, wIN_X9, wCD_X9_state, by decide +kernel, by decide +kernel, by decide +kernel⟩
theorem yo_X9_isTrue : YV yX9_isTrue cX9_isTrue 3 (some .boolean) 1 := ⟨wIM_X9_isTrue, wSE_X9_isTrue, wIN_X9, wCD_X9_isTrue, by decide +kernel, by decide +kernel, by decide +kernel⟩
theorem yo_X9_amiss : YV yX9_amiss cX9_amiss 3 (some .int) 1 := ⟨wIM_X9_amiss, wSE_X9_amiss, wIN_X9, wCD_X9_amiss, by decide +kernel, by decide +kernel, by decide +kernel⟩
theorem yo_X9_findPoints : YV yX9_findPoints cX9_findPoints 7 (some .int) 2 := ⟨wIM_X9_findPoints, wSE_X9_findPoints, wIN_X9, wCD_X9_findPoints, by decide +kernel, by decide +kernel, by decide +kernel⟩
theorem yo_X9_takes : YV yX9_takes cX9_takes 5 (some .int) 3 := ⟨wIM_X9_takes, wSE_X9_takes, wIN_X9, wCD_X9_takes, by decide +kernel, by decide +kernel, by decide +kernel⟩
theorem yo_X0_thinnedCopy : YV yX0_thinnedCopy cX0_thinnedCopy 3 none 2 := ⟨wIM_X0_thinnedCopy, wSE_X0_thinnedCopy, wIN_X0, wCD_X0_thinnedCopy, by decide +kernel, by decide +kernel, by decide +kernel⟩
theorem yo_X9_job : YV yX9_job cX9_job 7 (some .int) 2 := ⟨wIM_X9_job, wSE_X9_job, wIN_X9, wCD_X9_job, by decide +kernel, by decide +kernel, by decide +kernel⟩
theorem yo_X9_comesTrue : YV yX9_comesTrue cX9_comesTrue 7 (some .boolean) 3 := ⟨wIM_X9_comesTrue, wSE_X9_comesTrue, wIN_X9, wCD_X9_comesTrue, by decide +kernel, by decide +kernel, by decide +kernel⟩
theorem yo_X6_seeBar : YV yX6_seeBar cX6_seeBar 5 none 4 := ⟨wIM_X6_seeBar, wSE_X6_seeBar, wIN_X6, wCD_X6_seeBar, by decide +kernel, by decide +kernel, by decide +kernel⟩
theorem yo_X9_doLine : YV yX9_doLine cX9_doLine 9 none 3 := ⟨wIM_X9_doLine, wSE_X9_doLine, wIN_X9, wCD_X9_doLine, by decide +kernel, by decide +kernel, by decide +kernel⟩
theorem yo_X9_fewest : YV yX9_fewest cX9_fewest 5 (some .int) 2 := ⟨wIM_X9_fewest, wSE_X9_fewest, wIN_X9, wCD_X9_fewest, by decide +kernel, by decide +kernel, by decide +kernel⟩
theorem yo_X3_prepare : YV yX3_prepare cX3_prepare 7 none 4 := ⟨wIM_X3_prepare, wSE_X3_prepare, wIN_X3, wCD_X3_prepare, by decide +kernel, by decide +kernel, by decide +kernel⟩
theorem yo_X3_fill : YV yX3_fill cX3_fill 6 none 4 := ⟨wIM_X3_fill, wSE_X3_fill, wIN_X3, wCD_X3_fill, by decide +kernel, by decide +kernel, by decide +kernel⟩
theorem yo_X3_place : YS yX3_place cX3_place 3 (some .int) 3 := ⟨wST_X3_place, wIN_X3, wCD_X3_place, by decide +kernel, by decide +kernel, by decide +kernel⟩
theorem yo_X3_find : YV yX3_find cX3_find 2 (some .int) 0 := ⟨wIM_X3_find, wSE_X3_find, wIN_X3, wCD_X3_find, by decide +kernel, by decide +kernel, by decide +kernel⟩
theorem yo_X3_isTrueNow : YV yX3_isTrueNow cX3_isTrueNow 2 (some .boolean) 0 := ⟨wIM_X3_isTrueNow, wSE_X3_isTrueNow, wIN_X3, wCD_X3_isTrueNow, by decide +kernel, by decide +kernel, by decide +kernel⟩
theorem yo_X3_isNear : YV yX3_isNear cX3_isNear 6 (some .boolean) 4 := ⟨wIM_X3_isNear, wSE_X3_isNear, wIN_X3, wCD_X3_isNear, by decide +kernel, by decide +kernel, by decide +kernel⟩
theorem yo_X2_clear : YV yX2_clear cX2_clear 1 none 0 := ⟨wIM_X2_clear, wSE_X2_clear, wIN_X2, wCD_X2_clear, by decide +kernel, by decide +kernel, by decide +kernel⟩
theorem yo_X3_goOn : YV yX3_goOn cX3_goOn 5 (some .boolean) 2 := ⟨wIM_X3_goOn, wSE_X3_goOn, wIN_X3, wCD_X3_goOn, by decide +kernel, by decide +kernel, by decide +kernel⟩
theorem yo_X3_isNearBehind : YV yX3_isNearBehind cX3_isNearBehind 7 (some .boolean) 2 := ⟨wIM_X3_isNearBehind, wSE_X3_isNearBehind, wIN_X3, wCD_X3_isNearBehind, by decide +kernel, by decide +kernel, by decide +kernel⟩
theorem yo_X3_isReached : YV yX3_isReached cX3_isReached 5 (some .boolean) 3 := ⟨wIM_X3_isReached, wSE_X3_isReached, wIN_X3, wCD_X3_isReached, by decide +kernel, by decide +kernel, by decide +kernel⟩
theorem yo_X3_move : YV yX3_move cX3_move 6 none 2 := ⟨wIM_X3_move, wSE_X3_move, wIN_X3, wCD_X3_move, by decide +kernel, by decide +kernel, by decide +kernel⟩
theorem yo_X2_add : YV yX2_add cX2_add 4 (some .boolean) 1 := ⟨wIM_X2_add, wSE_X2_add, wIN_X2, wCD_X2_add, by decide +kernel, by decide +kernel, by decide +kernel⟩
theorem yo_X9_tap : YV yX9_tap cX9_tap 5 (some .int) 3 := ⟨wIM_X9_tap, wSE_X9_tap, wIN_X9, wCD_X9_tap, by decide +kernel, by decide +kernel, by decide +kernel⟩
theorem yo_X0_addTap : YV yX0_addTap cX0_addTap 3 none 2 := ⟨wIM_X0_addTap, wSE_X0_addTap, wIN_X0, wCD_X0_addTap, by decide +kernel, by decide +kernel, by decide +kernel⟩
theorem yo_X9_fits : YV yX9_fits cX9_fits 8 (some .int) 4 := ⟨wIM_X9_fits, wSE_X9_fits, wIN_X9, wCD_X9_fits, by decide +kernel, by decide +kernel, by decide +kernel⟩
theorem yo_X1_find : YV yX1_find cX1_find 8 (some .int) 5 := ⟨wIM_X1_find, wSE_X1_find, wIN_X1, wCD_X1_find, by decide +kernel, by decide +kernel, by decide +kernel⟩
theorem yo_X1_fill : YV yX1_fill cX1_fill 10 none 7 := ⟨wIM_X1_fill, wSE_X1_fill, wIN_X1, wCD_X1_fill, by decide +kernel, by decide +kernel, by decide +kernel⟩
theorem yo_X1_place : YS yX1_place cX1_place 3 (some .int) 3 := ⟨wST_X1_place, wIN_X1, wCD_X1_place, by decide +kernel, by decide +kernel, by decide +kernel⟩
theorem yo_X1_unfold : YV yX1_unfold cX1_unfold 4 none 1 := ⟨wIM_X1_unfold, wSE_X1_unfold, wIN_X1, wCD_X1_unfold, by decide +kernel, by decide +kernel, by decide +kernel⟩
theorem yo_X1_isHeard : YV yX1_isHeard cX1_isHeard 4 (some .boolean) 2 := ⟨wIM_X1_isHeard, wSE_X1_isHeard, wIN_X1, wCD_X1_isHeard, by decide +kernel, by decide +kernel, by decide +kernel⟩
theorem yo_X1_toneAt : YV yX1_toneAt cX1_toneAt 7 (some .int) 2 := ⟨wIM_X1_toneAt, wSE_X1_toneAt, wIN_X1, wCD_X1_toneAt, by decide +kernel, by decide +kernel, by decide +kernel⟩
theorem yo_X1_nextPass : YV yX1_nextPass cX1_nextPass 8 (some .int) 3 := ⟨wIM_X1_nextPass, wSE_X1_nextPass, wIN_X1, wCD_X1_nextPass, by decide +kernel, by decide +kernel, by decide +kernel⟩
theorem yo_X1_countUnlike : YV yX1_countUnlike cX1_countUnlike 6 (some .int) 4 := ⟨wIM_X1_countUnlike, wSE_X1_countUnlike, wIN_X1, wCD_X1_countUnlike, by decide +kernel, by decide +kernel, by decide +kernel⟩
theorem yo_X1_sure : YV yX1_sure cX1_sure 4 (some .int) 1 := ⟨wIM_X1_sure, wSE_X1_sure, wIN_X1, wCD_X1_sure, by decide +kernel, by decide +kernel, by decide +kernel⟩
theorem yo_X9_off : YV yX9_off cX9_off 2 (some .int) 1 := ⟨wIM_X9_off, wSE_X9_off, wIN_X9, wCD_X9_off, by decide +kernel, by decide +kernel, by decide +kernel⟩
theorem yo_X9_offOf : YV yX9_offOf cX9_offOf 8 (some .int) 1 := ⟨wIM_X9_offOf, wSE_X9_offOf, wIN_X9, wCD_X9_offOf, by decide +kernel, by decide +kernel, by decide +kernel⟩
theorem yo_J9_min_f86c9 : YS yJ9_min_f86c9 cJ9_min_f86c9 4 (some .long) 2 := ⟨wST_J9_min_f86c9, wIN_J9, wCD_J9_min_f86c9, by decide +kernel, by decide +kernel, by decide +kernel⟩
theorem yo_X9_still : YV yX9_still cX9_still 6 (some .int) 3 := ⟨wIM_X9_still, wSE_X9_still, wIN_X9, wCD_X9_still, by decide +kernel, by decide +kernel, by decide +kernel⟩
theorem yo_X9_holes : YV yX9_holes cX9_holes 5 (some .boolean) 3 := ⟨wIM_X9_holes, wSE_X9_holes, wIN_X9, wCD_X9_holes, by decide +kernel, by decide +kernel, by decide +kernel⟩
theorem yo_X9_tube : YV yX9_tube cX9_tube 5 (some .boolean) 3 := ⟨wIM_X9_tube, wSE_X9_tube, wIN_X9, wCD_X9_tube, by decide +kernel, by decide +kernel, by decide +kernel⟩
theorem yo_X9_in : YV yX9_in cX9_in 7 (some .int) 4 := ⟨wIM_X9_in, wSE_X9_in, wIN_X9, wCD_X9_in, by decide +kernel, by decide +kernel, by decide +kernel⟩
theorem yo_X9_isAir : YS yX9_isAir cX9_isAir 2 (some .boolean) 2 := ⟨wST_X9_isAir, wIN_X9, wCD_X9_isAir, by decide +kernel, by decide +kernel, by decide +kernel⟩
theorem yo_X9_driftIn : YV yX9_driftIn cX9_driftIn 3 (some .int) 2 := ⟨wIM_X9_driftIn, wSE_X9_driftIn, wIN_X9, wCD_X9_driftIn, by decide +kernel, by decide +kernel, by decide +kernel⟩
theorem yo_X6_seeAir : YV yX6_seeAir cX6_seeAir 3 none 2 := ⟨wIM_X6_seeAir, wSE_X6_seeAir, wIN_X6, wCD_X6_seeAir, by decide +kernel, by decide +kernel, by decide +kernel⟩
theorem yo_X9_drifted : YS yX9_drifted cX9_drifted 4 (some .int) 2 := ⟨wST_X9_drifted, wIN_X9, wCD_X9_drifted, by decide +kernel, by decide +kernel, by decide +kernel⟩
theorem yo_J9_max_f86c9 : YS yJ9_max_f86c9 cJ9_max_f86c9 4 (some .long) 2 := ⟨wST_J9_max_f86c9, wIN_J9, wCD_J9_max_f86c9, by decide +kernel, by decide +kernel, by decide +kernel⟩
theorem yo_X9_beat : YS yX9_beat cX9_beat 5 (some .int) 4 := ⟨wST_X9_beat, wIN_X9, wCD_X9_beat, by decide +kernel, by decide +kernel, by decide +kernel⟩
theorem yo_X9_air : YS yX9_air cX9_air 1 (some .int) 1 := ⟨wST_X9_air, wIN_X9, wCD_X9_air, by decide +kernel, by decide +kernel, by decide +kernel⟩
theorem yo_X9_stopper : YS yX9_stopper cX9_stopper 5 (some .int) 2 := ⟨wST_X9_stopper, wIN_X9, wCD_X9_stopper, by decide +kernel, by decide +kernel, by decide +kernel⟩
theorem yo_X9_shortest : YS yX9_shortest cX9_shortest 2 (some .int) 2 := ⟨wST_X9_shortest, wIN_X9, wCD_X9_shortest, by decide +kernel, by decide +kernel, by decide +kernel⟩
theorem yo_X9_night : YV yX9_night cX9_night 3 (some .int) 2 := ⟨wIM_X9_night, wSE_X9_night, wIN_X9, wCD_X9_night, by decide +kernel, by decide +kernel, by decide +kernel⟩
theorem yo_X9_nights : YV yX9_nights cX9_nights 3 (some .int) 2 := ⟨wIM_X9_nights, wSE_X9_nights, wIN_X9, wCD_X9_nights, by decide +kernel, by decide +kernel, by decide +kernel⟩
theorem yo_X9_fillLowTones : YV yX9_fillLowTones cX9_fillLowTones 2 none 0 := ⟨wIM_X9_fillLowTones, wSE_X9_fillLowTones, wIN_X9, wCD_X9_fillLowTones, by decide +kernel, by decide +kernel, by decide +kernel⟩
theorem yo_X9_apart : YV yX9_apart cX9_apart 3 (some .int) 0 := ⟨wIM_X9_apart, wSE_X9_apart, wIN_X9, wCD_X9_apart, by decide +kernel, by decide +kernel, by decide +kernel⟩
theorem yo_X9_suiting : YV yX9_suiting cX9_suiting 5 (some .int) 1 := ⟨wIM_X9_suiting, wSE_X9_suiting, wIN_X9, wCD_X9_suiting, by decide +kernel, by decide +kernel, by decide +kernel⟩
theorem yo_X9_worst : YV yX9_worst cX9_worst 8 (some .int) 2 := ⟨wIM_X9_worst, wSE_X9_worst, wIN_X9, wCD_X9_worst, by decide +kernel, by decide +kernel, by decide +kernel⟩
theorem yo_X9_beatIn : YV yX9_beatIn cX9_beatIn 5 (some .int) 4 := ⟨wIM_X9_beatIn, wSE_X9_beatIn, wIN_X9, wCD_X9_beatIn, by decide +kernel, by decide +kernel, by decide +kernel⟩
theorem yo_X9_together : YV yX9_together cX9_together 11 (some .int) 1 := ⟨wIM_X9_together, wSE_X9_together, wIN_X9, wCD_X9_together, by decide +kernel, by decide +kernel, by decide +kernel⟩
theorem yo_J9_abs_067f4 : YS yJ9_abs_067f4 cJ9_abs_067f4 2 (some .long) 1 := ⟨wST_J9_abs_067f4, wIN_J9, wCD_J9_abs_067f4, by decide +kernel, by decide +kernel, by decide +kernel⟩
theorem yo_X9_note : YV yX9_note cX9_note 3 (some .int) 2 := ⟨wIM_X9_note, wSE_X9_note, wIN_X9, wCD_X9_note, by decide +kernel, by decide +kernel, by decide +kernel⟩
theorem yo_X9_blank : YV yX9_blank cX9_blank 3 (some .int) 2 := ⟨wIM_X9_blank, wSE_X9_blank, wIN_X9, wCD_X9_blank, by decide +kernel, by decide +kernel, by decide +kernel⟩
theorem yo_X9_set : YV yX9_set cX9_set 4 (some .int) 2 := ⟨wIM_X9_set, wSE_X9_set, wIN_X9, wCD_X9_set, by decide +kernel, by decide +kernel, by decide +kernel⟩
theorem yo_X5_find : YV yX5_find cX5_find 3 (some .int) 2 := ⟨wIM_X5_find, wSE_X5_find, wIN_X5, wCD_X5_find, by decide +kernel, by decide +kernel, by decide +kernel⟩
theorem yo_X5_goOn : YV yX5_goOn cX5_goOn 8 none 4 := ⟨wIM_X5_goOn, wSE_X5_goOn, wIN_X5, wCD_X5_goOn, by decide +kernel, by decide +kernel, by decide +kernel⟩
theorem yo_X5_ringsTogether : YV yX5_ringsTogether cX5_ringsTogether 5 (some .boolean) 3 := ⟨wIM_X5_ringsTogether, wSE_X5_ringsTogether, wIN_X5, wCD_X5_ringsTogether, by decide +kernel, by decide +kernel, by decide +kernel⟩
theorem yo_X9_down : YV yX9_down cX9_down 7 (some .int) 1 := ⟨wIM_X9_down, wSE_X9_down, wIN_X9, wCD_X9_down, by decide +kernel, by decide +kernel, by decide +kernel⟩
theorem yo_X9_enough : YV yX9_enough cX9_enough 9 (some .int) 3 := ⟨wIM_X9_enough, wSE_X9_enough, wIN_X9, wCD_X9_enough, by decide +kernel, by decide +kernel, by decide +kernel⟩
theorem yo_X6_sumOf : YV yX6_sumOf cX6_sumOf 8 (some .int) 5 := ⟨wIM_X6_sumOf, wSE_X6_sumOf, wIN_X6, wCD_X6_sumOf, by decide +kernel, by decide +kernel, by decide +kernel⟩
theorem yo_X9_image : YV yX9_image cX9_image 2 (some .boolean) 1 := ⟨wIM_X9_image, wSE_X9_image, wIN_X9, wCD_X9_image, by decide +kernel, by decide +kernel, by decide +kernel⟩
theorem yo_X8_copyFrom : YV yX8_copyFrom cX8_copyFrom 3 none 1 := ⟨wIM_X8_copyFrom, wSE_X8_copyFrom, wIN_X8, wCD_X8_copyFrom, by decide +kernel, by decide +kernel, by decide +kernel⟩
theorem yo_X0_copyFrom : YV yX0_copyFrom cX0_copyFrom 3 none 1 := ⟨wIM_X0_copyFrom, wSE_X0_copyFrom, wIN_X0, wCD_X0_copyFrom, by decide +kernel, by decide +kernel, by decide +kernel⟩
theorem yo_X9_look : YV yX9_look cX9_look 2 (some .int) 1 := ⟨wIM_X9_look, wSE_X9_look, wIN_X9, wCD_X9_look, by decide +kernel, by decide +kernel, by decide +kernel⟩
theorem yo_X9_countLost : YV yX9_countLost cX9_countLost 3 (some .int) 0 := ⟨wIM_X9_countLost, wSE_X9_countLost, wIN_X9, wCD_X9_countLost, by decide +kernel, by decide +kernel, by decide +kernel⟩
theorem yo_X9_countTrue : YV yX9_countTrue cX9_countTrue 3 (some .int) 0 := ⟨wIM_X9_countTrue, wSE_X9_countTrue, wIN_X9, wCD_X9_countTrue, by decide +kernel, by decide +kernel, by decide +kernel⟩
theorem yo_X10_init : YI yX10_init cX10_init 1 0 := ⟨wIM_X10_init, wIN_X10, wCD_X10_init, by decide +kernel, by decide +kernel, by decide +kernel⟩
theorem yo_X10_bar : YV yX10_bar cX10_bar 3 (some .int) 1 := ⟨wIM_X10_bar, wSE_X10_bar, wIN_X10, wCD_X10_bar, by decide +kernel, by decide +kernel, by decide +kernel⟩
theorem yo_X10_isIn : YV yX10_isIn cX10_isIn 4 (some .boolean) 3 := ⟨wIM_X10_isIn, wSE_X10_isIn, wIN_X10, wCD_X10_isIn, by decide +kernel, by decide +kernel, by decide +kernel⟩
theorem yo_X10_slice : YV yX10_slice cX10_slice 6 (some .boolean) 5 := ⟨wIM_X10_slice, wSE_X10_slice, wIN_X10, wCD_X10_slice, by decide +kernel, by decide +kernel, by decide +kernel⟩
theorem yo_X10_isSlice : YV yX10_isSlice cX10_isSlice 3 (some .boolean) 2 := ⟨wIM_X10_isSlice, wSE_X10_isSlice, wIN_X10, wCD_X10_isSlice, by decide +kernel, by decide +kernel, by decide +kernel⟩
theorem yo_X10_isBar : YV yX10_isBar cX10_isBar 2 (some .boolean) 1 := ⟨wIM_X10_isBar, wSE_X10_isBar, wIN_X10, wCD_X10_isBar, by decide +kernel, by decide +kernel, by decide +kernel⟩
theorem yo_X10_wax : YV yX10_wax cX10_wax 4 (some .boolean) 3 := ⟨wIM_X10_wax, wSE_X10_wax, wIN_X10, wCD_X10_wax, by decide +kernel, by decide +kernel, by decide +kernel⟩
theorem yo_X10_of : YV yX10_of cX10_of 5 (some .int) 3 := ⟨wIM_X10_of, wSE_X10_of, wIN_X10, wCD_X10_of, by decide +kernel, by decide +kernel, by decide +kernel⟩
theorem yo_X10_feed : YV yX10_feed cX10_feed 6 (some .int) 5 := ⟨wIM_X10_feed, wSE_X10_feed, wIN_X10, wCD_X10_feed, by decide +kernel, by decide +kernel, by decide +kernel⟩
theorem yo_X10_puts : YV yX10_puts cX10_puts 3 none 1 := ⟨wIM_X10_puts, wSE_X10_puts, wIN_X10, wCD_X10_puts, by decide +kernel, by decide +kernel, by decide +kernel⟩
theorem yo_X10_end : YV yX10_end cX10_end 2 (some .boolean) 1 := ⟨wIM_X10_end, wSE_X10_end, wIN_X10, wCD_X10_end, by decide +kernel, by decide +kernel, by decide +kernel⟩
theorem yo_X10_text : YV yX10_text cX10_text 7 (some .int) 2 := ⟨wIM_X10_text, wSE_X10_text, wIN_X10, wCD_X10_text, by decide +kernel, by decide +kernel, by decide +kernel⟩
theorem yo_X10_reads : YV yX10_reads cX10_reads 2 none 0 := ⟨wIM_X10_reads, wSE_X10_reads, wIN_X10, wCD_X10_reads, by decide +kernel, by decide +kernel, by decide +kernel⟩
theorem yo_X10_raw : YV yX10_raw cX10_raw 2 (some .int) 1 := ⟨wIM_X10_raw, wSE_X10_raw, wIN_X10, wCD_X10_raw, by decide +kernel, by decide +kernel, by decide +kernel⟩
theorem yo_X10_isLetter : YV yX10_isLetter cX10_isLetter 2 (some .boolean) 1 := ⟨wIM_X10_isLetter, wSE_X10_isLetter, wIN_X10, wCD_X10_isLetter, by decide +kernel, by decide +kernel, by decide +kernel⟩
theorem yo_X10_wordAt : YV yX10_wordAt cX10_wordAt 6 (some .int) 2 := ⟨wIM_X10_wordAt, wSE_X10_wordAt, wIN_X10, wCD_X10_wordAt, by decide +kernel, by decide +kernel, by decide +kernel⟩
theorem yo_X10_isDigit : YV yX10_isDigit cX10_isDigit 2 (some .boolean) 1 := ⟨wIM_X10_isDigit, wSE_X10_isDigit, wIN_X10, wCD_X10_isDigit, by decide +kernel, by decide +kernel, by decide +kernel⟩
theorem yo_X10_isMarkSign : YV yX10_isMarkSign cX10_isMarkSign 2 (some .boolean) 1 := ⟨wIM_X10_isMarkSign, wSE_X10_isMarkSign, wIN_X10, wCD_X10_isMarkSign, by decide +kernel, by decide +kernel, by decide +kernel⟩
theorem yo_X10_readText : YV yX10_readText cX10_readText 2 (some .int) 0 := ⟨wIM_X10_readText, wSE_X10_readText, wIN_X10, wCD_X10_readText, by decide +kernel, by decide +kernel, by decide +kernel⟩
theorem yo_X10_isBegin : YV yX10_isBegin cX10_isBegin 1 (some .boolean) 0 := ⟨wIM_X10_isBegin, wSE_X10_isBegin, wIN_X10, wCD_X10_isBegin, by decide +kernel, by decide +kernel, by decide +kernel⟩
theorem yo_X10_fails : YV yX10_fails cX10_fails 2 (some .int) 1 := ⟨wIM_X10_fails, wSE_X10_fails, wIN_X10, wCD_X10_fails, by decide +kernel, by decide +kernel, by decide +kernel⟩
theorem yo_X10_readLine : YV yX10_readLine cX10_readLine 3 (some .int) 1 := ⟨wIM_X10_readLine, wSE_X10_readLine, wIN_X10, wCD_X10_readLine, by decide +kernel, by decide +kernel, by decide +kernel⟩
theorem yo_X10_readNumbers : YV yX10_readNumbers cX10_readNumbers 3 (some .int) 2 := ⟨wIM_X10_readNumbers, wSE_X10_readNumbers, wIN_X10, wCD_X10_readNumbers, by decide +kernel, by decide +kernel, by decide +kernel⟩
theorem yo_X10_readNumber : YV yX10_readNumber cX10_readNumber 4 (some .int) 2 := ⟨wIM_X10_readNumber, wSE_X10_readNumber, wIN_X10, wCD_X10_readNumber, by decide +kernel, by decide +kernel, by decide +kernel⟩
theorem yo_X10_readSum : YV yX10_readSum cX10_readSum 2 (some .int) 0 := ⟨wIM_X10_readSum, wSE_X10_readSum, wIN_X10, wCD_X10_readSum, by decide +kernel, by decide +kernel, by decide +kernel⟩
theorem yo_X10_readProduct : YV yX10_readProduct cX10_readProduct 2 (some .int) 0 := ⟨wIM_X10_readProduct, wSE_X10_readProduct, wIN_X10, wCD_X10_readProduct, by decide +kernel, by decide +kernel, by decide +kernel⟩
theorem yo_X10_readUnit : YV yX10_readUnit cX10_readUnit 2 (some .int) 0 := ⟨wIM_X10_readUnit, wSE_X10_readUnit, wIN_X10, wCD_X10_readUnit, by decide +kernel, by decide +kernel, by decide +kernel⟩
theorem yo_X10_emits : YV yX10_emits cX10_emits 3 none 2 := ⟨wIM_X10_emits, wSE_X10_emits, wIN_X10, wCD_X10_emits, by decide +kernel, by decide +kernel, by decide +kernel⟩
theorem yo_X10_isSign : YV yX10_isSign cX10_isSign 2 (some .boolean) 1 := ⟨wIM_X10_isSign, wSE_X10_isSign, wIN_X10, wCD_X10_isSign, by decide +kernel, by decide +kernel, by decide +kernel⟩
theorem yo_X10_isWord : YV yX10_isWord cX10_isWord 2 (some .boolean) 1 := ⟨wIM_X10_isWord, wSE_X10_isWord, wIN_X10, wCD_X10_isWord, by decide +kernel, by decide +kernel, by decide +kernel⟩
theorem yo_X10_readAny : YV yX10_readAny cX10_readAny 4 (some .int) 0 := ⟨wIM_X10_readAny, wSE_X10_readAny, wIN_X10, wCD_X10_readAny, by decide +kernel, by decide +kernel, by decide +kernel⟩
theorem yo_X10_waits : YV yX10_waits cX10_waits 2 none 1 := ⟨wIM_X10_waits, wSE_X10_waits, wIN_X10, wCD_X10_waits, by decide +kernel, by decide +kernel, by decide +kernel⟩
theorem yo_X10_readCompared : YV yX10_readCompared cX10_readCompared 2 (some .int) 0 := ⟨wIM_X10_readCompared, wSE_X10_readCompared, wIN_X10, wCD_X10_readCompared, by decide +kernel, by decide +kernel, by decide +kernel⟩
theorem yo_X10_settles : YV yX10_settles cX10_settles 2 none 1 := ⟨wIM_X10_settles, wSE_X10_settles, wIN_X10, wCD_X10_settles, by decide +kernel, by decide +kernel, by decide +kernel⟩
theorem yo_X10_fault : YV yX10_fault cX10_fault 2 (some .int) 1 := ⟨wIM_X10_fault, wSE_X10_fault, wIN_X10, wCD_X10_fault, by decide +kernel, by decide +kernel, by decide +kernel⟩
theorem yo_X10_force : YV yX10_force cX10_force 3 (some .int) 1 := ⟨wIM_X10_force, wSE_X10_force, wIN_X10, wCD_X10_force, by decide +kernel, by decide +kernel, by decide +kernel⟩
theorem yo_X10_isLaw : YV yX10_isLaw cX10_isLaw 2 (some .boolean) 1 := ⟨wIM_X10_isLaw, wSE_X10_isLaw, wIN_X10, wCD_X10_isLaw, by decide +kernel, by decide +kernel, by decide +kernel⟩
theorem yo_X10_tells : YV yX10_tells cX10_tells 6 (some .int) 5 := ⟨wIM_X10_tells, wSE_X10_tells, wIN_X10, wCD_X10_tells, by decide +kernel, by decide +kernel, by decide +kernel⟩
theorem yo_X10_isTone : YV yX10_isTone cX10_isTone 2 (some .boolean) 1 := ⟨wIM_X10_isTone, wSE_X10_isTone, wIN_X10, wCD_X10_isTone, by decide +kernel, by decide +kernel, by decide +kernel⟩
theorem yo_X10_asksSlice : YV yX10_asksSlice cX10_asksSlice 3 none 2 := ⟨wIM_X10_asksSlice, wSE_X10_asksSlice, wIN_X10, wCD_X10_asksSlice, by decide +kernel, by decide +kernel, by decide +kernel⟩
theorem yo_X10_asks : YV yX10_asks cX10_asks 8 none 6 := ⟨wIM_X10_asks, wSE_X10_asks, wIN_X10, wCD_X10_asks, by decide +kernel, by decide +kernel, by decide +kernel⟩
theorem yo_X10_size : YV yX10_size cX10_size 2 (some .int) 1 := ⟨wIM_X10_size, wSE_X10_size, wIN_X10, wCD_X10_size, by decide +kernel, by decide +kernel, by decide +kernel⟩
theorem yo_X10_tellsBy : YV yX10_tellsBy cX10_tellsBy 8 (some .int) 3 := ⟨wIM_X10_tellsBy, wSE_X10_tellsBy, wIN_X10, wCD_X10_tellsBy, by decide +kernel, by decide +kernel, by decide +kernel⟩
theorem yo_X10_isSo : YV yX10_isSo cX10_isSo 3 (some .boolean) 2 := ⟨wIM_X10_isSo, wSE_X10_isSo, wIN_X10, wCD_X10_isSo, by decide +kernel, by decide +kernel, by decide +kernel⟩
theorem yo_X10_worth : YV yX10_worth cX10_worth 6 (some .int) 3 := ⟨wIM_X10_worth, wSE_X10_worth, wIN_X10, wCD_X10_worth, by decide +kernel, by decide +kernel, by decide +kernel⟩
theorem yo_X10_twoOf : YV yX10_twoOf cX10_twoOf 4 (some .int) 3 := ⟨wIM_X10_twoOf, wSE_X10_twoOf, wIN_X10, wCD_X10_twoOf, by decide +kernel, by decide +kernel, by decide +kernel⟩
theorem yo_X10_tone : YV yX10_tone cX10_tone 3 (some .int) 2 := ⟨wIM_X10_tone, wSE_X10_tone, wIN_X10, wCD_X10_tone, by decide +kernel, by decide +kernel, by decide +kernel⟩
theorem yo_X10_toneNow : YV yX10_toneNow cX10_toneNow 3 (some .int) 2 := ⟨wIM_X10_toneNow, wSE_X10_toneNow, wIN_X10, wCD_X10_toneNow, by decide +kernel, by decide +kernel, by decide +kernel⟩
theorem yo_X10_toneBy : YV yX10_toneBy cX10_toneBy 7 (some .int) 3 := ⟨wIM_X10_toneBy, wSE_X10_toneBy, wIN_X10, wCD_X10_toneBy, by decide +kernel, by decide +kernel, by decide +kernel⟩
theorem yo_X10_shave : YV yX10_shave cX10_shave 4 (some .int) 3 := ⟨wIM_X10_shave, wSE_X10_shave, wIN_X10, wCD_X10_shave, by decide +kernel, by decide +kernel, by decide +kernel⟩
theorem yo_X10_canPass : YV yX10_canPass cX10_canPass 4 (some .boolean) 3 := ⟨wIM_X10_canPass, wSE_X10_canPass, wIN_X10, wCD_X10_canPass, by decide +kernel, by decide +kernel, by decide +kernel⟩
theorem yo_X10_takesOff : YV yX10_takesOff cX10_takesOff 4 none 3 := ⟨wIM_X10_takesOff, wSE_X10_takesOff, wIN_X10, wCD_X10_takesOff, by decide +kernel, by decide +kernel, by decide +kernel⟩
theorem yo_X10_isLost : YV yX10_isLost cX10_isLost 3 (some .boolean) 1 := ⟨wIM_X10_isLost, wSE_X10_isLost, wIN_X10, wCD_X10_isLost, by decide +kernel, by decide +kernel, by decide +kernel⟩
theorem yo_X10_pass : YV yX10_pass cX10_pass 4 (some .int) 3 := ⟨wIM_X10_pass, wSE_X10_pass, wIN_X10, wCD_X10_pass, by decide +kernel, by decide +kernel, by decide +kernel⟩
theorem yo_X10_goal : YV yX10_goal cX10_goal 4 (some .boolean) 3 := ⟨wIM_X10_goal, wSE_X10_goal, wIN_X10, wCD_X10_goal, by decide +kernel, by decide +kernel, by decide +kernel⟩
theorem yo_X10_slack : YV yX10_slack cX10_slack 2 (some .boolean) 1 := ⟨wIM_X10_slack, wSE_X10_slack, wIN_X10, wCD_X10_slack, by decide +kernel, by decide +kernel, by decide +kernel⟩
theorem yo_X10_takes : YV yX10_takes cX10_takes 6 (some .int) 3 := ⟨wIM_X10_takes, wSE_X10_takes, wIN_X10, wCD_X10_takes, by decide +kernel, by decide +kernel, by decide +kernel⟩
theorem yo_X10_job : YV yX10_job cX10_job 6 (some .int) 2 := ⟨wIM_X10_job, wSE_X10_job, wIN_X10, wCD_X10_job, by decide +kernel, by decide +kernel, by decide +kernel⟩
theorem yo_X10_asksJob : YV yX10_asksJob cX10_asksJob 6 none 1 := ⟨wIM_X10_asksJob, wSE_X10_asksJob, wIN_X10, wCD_X10_asksJob, by decide +kernel, by decide +kernel, by decide +kernel⟩
theorem yo_X10_doesLine : YV yX10_doesLine cX10_doesLine 7 none 2 := ⟨wIM_X10_doesLine, wSE_X10_doesLine, wIN_X10, wCD_X10_doesLine, by decide +kernel, by decide +kernel, by decide +kernel⟩
theorem yo_X10_fewest : YV yX10_fewest cX10_fewest 4 (some .int) 2 := ⟨wIM_X10_fewest, wSE_X10_fewest, wIN_X10, wCD_X10_fewest, by decide +kernel, by decide +kernel, by decide +kernel⟩
theorem yo_X10_findsFewest : YV yX10_findsFewest cX10_findsFewest 4 (some .int) 1 := ⟨wIM_X10_findsFewest, wSE_X10_findsFewest, wIN_X10, wCD_X10_findsFewest, by decide +kernel, by decide +kernel, by decide +kernel⟩
theorem yo_X10_findsTable : YV yX10_findsTable cX10_findsTable 6 none 1 := ⟨wIM_X10_findsTable, wSE_X10_findsTable, wIN_X10, wCD_X10_findsTable, by decide +kernel, by decide +kernel, by decide +kernel⟩
theorem yo_X10_does : YV yX10_does cX10_does 6 (some .boolean) 2 := ⟨wIM_X10_does, wSE_X10_does, wIN_X10, wCD_X10_does, by decide +kernel, by decide +kernel, by decide +kernel⟩
theorem yo_X10_wouldBe : YV yX10_wouldBe cX10_wouldBe 6 (some .int) 1 := ⟨wIM_X10_wouldBe, wSE_X10_wouldBe, wIN_X10, wCD_X10_wouldBe, by decide +kernel, by decide +kernel, by decide +kernel⟩
theorem yo_X10_toneByTable : YV yX10_toneByTable cX10_toneByTable 6 (some .int) 2 := ⟨wIM_X10_toneByTable, wSE_X10_toneByTable, wIN_X10, wCD_X10_toneByTable, by decide +kernel, by decide +kernel, by decide +kernel⟩
theorem yo_X10_goesOn : YV yX10_goesOn cX10_goesOn 4 (some .boolean) 2 := ⟨wIM_X10_goesOn, wSE_X10_goesOn, wIN_X10, wCD_X10_goesOn, by decide +kernel, by decide +kernel, by decide +kernel⟩
theorem yo_X10_tap : YV yX10_tap cX10_tap 6 (some .int) 3 := ⟨wIM_X10_tap, wSE_X10_tap, wIN_X10, wCD_X10_tap, by decide +kernel, by decide +kernel, by decide +kernel⟩
theorem yo_X10_fits : YV yX10_fits cX10_fits 5 (some .int) 4 := ⟨wIM_X10_fits, wSE_X10_fits, wIN_X10, wCD_X10_fits, by decide +kernel, by decide +kernel, by decide +kernel⟩
theorem yo_X10_findsFits : YV yX10_findsFits cX10_findsFits 7 none 3 := ⟨wIM_X10_findsFits, wSE_X10_findsFits, wIN_X10, wCD_X10_findsFits, by decide +kernel, by decide +kernel, by decide +kernel⟩
theorem yo_X10_fitsAll : YV yX10_fitsAll cX10_fitsAll 4 (some .boolean) 2 := ⟨wIM_X10_fitsAll, wSE_X10_fitsAll, wIN_X10, wCD_X10_fitsAll, by decide +kernel, by decide +kernel, by decide +kernel⟩
theorem yo_X10_toneOf : YV yX10_toneOf cX10_toneOf 7 (some .int) 3 := ⟨wIM_X10_toneOf, wSE_X10_toneOf, wIN_X10, wCD_X10_toneOf, by decide +kernel, by decide +kernel, by decide +kernel⟩
theorem yo_X10_nextPass : YV yX10_nextPass cX10_nextPass 6 (some .int) 1 := ⟨wIM_X10_nextPass, wSE_X10_nextPass, wIN_X10, wCD_X10_nextPass, by decide +kernel, by decide +kernel, by decide +kernel⟩
theorem yo_X10_unlikeBy : YV yX10_unlikeBy cX10_unlikeBy 8 (some .int) 2 := ⟨wIM_X10_unlikeBy, wSE_X10_unlikeBy, wIN_X10, wCD_X10_unlikeBy, by decide +kernel, by decide +kernel, by decide +kernel⟩
theorem yo_X10_sureOf : YV yX10_sureOf cX10_sureOf 3 (some .int) 1 := ⟨wIM_X10_sureOf, wSE_X10_sureOf, wIN_X10, wCD_X10_sureOf, by decide +kernel, by decide +kernel, by decide +kernel⟩
theorem yo_X10_off : YV yX10_off cX10_off 2 (some .int) 1 := ⟨wIM_X10_off, wSE_X10_off, wIN_X10, wCD_X10_off, by decide +kernel, by decide +kernel, by decide +kernel⟩
theorem yo_X10_offOf : YV yX10_offOf cX10_offOf 6 (some .int) 1 := ⟨wIM_X10_offOf, wSE_X10_offOf, wIN_X10, wCD_X10_offOf, by decide +kernel, by decide +kernel, by decide +kernel⟩
theorem yo_X10_still : YV yX10_still cX10_still 4 (some .int) 3 := ⟨wIM_X10_still, wSE_X10_still, wIN_X10, wCD_X10_still, by decide +kernel, by decide +kernel, by decide +kernel⟩
theorem yo_X10_stills : YV yX10_stills cX10_stills 5 (some .int) 2 := ⟨wIM_X10_stills, wSE_X10_stills, wIN_X10, wCD_X10_stills, by decide +kernel, by decide +kernel, by decide +kernel⟩
theorem yo_X10_isStill : YV yX10_isStill cX10_isStill 4 (some .boolean) 3 := ⟨wIM_X10_isStill, wSE_X10_isStill, wIN_X10, wCD_X10_isStill, by decide +kernel, by decide +kernel, by decide +kernel⟩
theorem yo_X10_sways : YV yX10_sways cX10_sways 4 (some .boolean) 3 := ⟨wIM_X10_sways, wSE_X10_sways, wIN_X10, wCD_X10_sways, by decide +kernel, by decide +kernel, by decide +kernel⟩
theorem yo_X10_stillAt : YV yX10_stillAt cX10_stillAt 6 (some .int) 3 := ⟨wIM_X10_stillAt, wSE_X10_stillAt, wIN_X10, wCD_X10_stillAt, by decide +kernel, by decide +kernel, by decide +kernel⟩
theorem yo_X10_holes : YV yX10_holes cX10_holes 4 (some .boolean) 3 := ⟨wIM_X10_holes, wSE_X10_holes, wIN_X10, wCD_X10_holes, by decide +kernel, by decide +kernel, by decide +kernel⟩
theorem yo_X10_state : YV yX10_state cX10_state 3 (some .int) 2 := ⟨wIM_X10_state, wSE_X10_state, wIN_X10, wCD_X10_state, by decide +kernel, by decide +kernel, by decide +kernel⟩
theorem yo_X10_isTrue : YV yX10_isTrue cX10_isTrue 3 (some .boolean) 1 := ⟨wIM_X10_isTrue, wSE_X10_isTrue, wIN_X10, wCD_X10_isTrue, by decide +kernel, by decide +kernel, by decide +kernel⟩
theorem yo_X10_amiss : YV yX10_amiss cX10_amiss 3 (some .int) 1 := ⟨wIM_X10_amiss, wSE_X10_amiss, wIN_X10, wCD_X10_amiss, by decide +kernel, by decide +kernel, by decide +kernel⟩
theorem yo_X10_tube : YV yX10_tube cX10_tube 4 (some .boolean) 3 := ⟨wIM_X10_tube, wSE_X10_tube, wIN_X10, wCD_X10_tube, by decide +kernel, by decide +kernel, by decide +kernel⟩
theorem yo_X10_in : YV yX10_in cX10_in 8 (some .int) 4 := ⟨wIM_X10_in, wSE_X10_in, wIN_X10, wCD_X10_in, by decide +kernel, by decide +kernel, by decide +kernel⟩
theorem yo_X10_isHeat : YV yX10_isHeat cX10_isHeat 2 (some .boolean) 1 := ⟨wIM_X10_isHeat, wSE_X10_isHeat, wIN_X10, wCD_X10_isHeat, by decide +kernel, by decide +kernel, by decide +kernel⟩
theorem yo_X10_isWet : YV yX10_isWet cX10_isWet 2 (some .boolean) 1 := ⟨wIM_X10_isWet, wSE_X10_isWet, wIN_X10, wCD_X10_isWet, by decide +kernel, by decide +kernel, by decide +kernel⟩
theorem yo_X10_beatOf : YV yX10_beatOf cX10_beatOf 5 (some .int) 4 := ⟨wIM_X10_beatOf, wSE_X10_beatOf, wIN_X10, wCD_X10_beatOf, by decide +kernel, by decide +kernel, by decide +kernel⟩
theorem yo_X10_sounds : YV yX10_sounds cX10_sounds 3 (some .int) 2 := ⟨wIM_X10_sounds, wSE_X10_sounds, wIN_X10, wCD_X10_sounds, by decide +kernel, by decide +kernel, by decide +kernel⟩
theorem yo_X10_drifted : YV yX10_drifted cX10_drifted 8 (some .int) 3 := ⟨wIM_X10_drifted, wSE_X10_drifted, wIN_X10, wCD_X10_drifted, by decide +kernel, by decide +kernel, by decide +kernel⟩
theorem yo_X10_night : YV yX10_night cX10_night 3 (some .int) 2 := ⟨wIM_X10_night, wSE_X10_night, wIN_X10, wCD_X10_night, by decide +kernel, by decide +kernel, by decide +kernel⟩
theorem yo_X10_nights : YV yX10_nights cX10_nights 5 (some .int) 2 := ⟨wIM_X10_nights, wSE_X10_nights, wIN_X10, wCD_X10_nights, by decide +kernel, by decide +kernel, by decide +kernel⟩
theorem yo_X10_suits : YV yX10_suits cX10_suits 2 (some .int) 1 := ⟨wIM_X10_suits, wSE_X10_suits, wIN_X10, wCD_X10_suits, by decide +kernel, by decide +kernel, by decide +kernel⟩
theorem yo_X10_worstBeat : YV yX10_worstBeat cX10_worstBeat 4 (some .int) 2 := ⟨wIM_X10_worstBeat, wSE_X10_worstBeat, wIN_X10, wCD_X10_worstBeat, by decide +kernel, by decide +kernel, by decide +kernel⟩
theorem yo_X10_worstOf : YV yX10_worstOf cX10_worstOf 7 (some .int) 2 := ⟨wIM_X10_worstOf, wSE_X10_worstOf, wIN_X10, wCD_X10_worstOf, by decide +kernel, by decide +kernel, by decide +kernel⟩
theorem yo_X10_together : YV yX10_together cX10_together 8 (some .int) 1 := ⟨wIM_X10_together, wSE_X10_together, wIN_X10, wCD_X10_together, by decide +kernel, by decide +kernel, by decide +kernel⟩
theorem yo_X10_note : YV yX10_note cX10_note 3 (some .int) 2 := ⟨wIM_X10_note, wSE_X10_note, wIN_X10, wCD_X10_note, by decide +kernel, by decide +kernel, by decide +kernel⟩
theorem yo_X10_blank : YV yX10_blank cX10_blank 3 (some .int) 2 := ⟨wIM_X10_blank, wSE_X10_blank, wIN_X10, wCD_X10_blank, by decide +kernel, by decide +kernel, by decide +kernel⟩
theorem yo_X10_set : YV yX10_set cX10_set 4 (some .int) 2 := ⟨wIM_X10_set, wSE_X10_set, wIN_X10, wCD_X10_set, by decide +kernel, by decide +kernel, by decide +kernel⟩
theorem yo_X10_leastWaste : YV yX10_leastWaste cX10_leastWaste 6 (some .int) 1 := ⟨wIM_X10_leastWaste, wSE_X10_leastWaste, wIN_X10, wCD_X10_leastWaste, by decide +kernel, by decide +kernel, by decide +kernel⟩
theorem yo_X10_canHave : YV yX10_canHave cX10_canHave 5 (some .boolean) 2 := ⟨wIM_X10_canHave, wSE_X10_canHave, wIN_X10, wCD_X10_canHave, by decide +kernel, by decide +kernel, by decide +kernel⟩
theorem yo_X10_down : YV yX10_down cX10_down 5 (some .int) 1 := ⟨wIM_X10_down, wSE_X10_down, wIN_X10, wCD_X10_down, by decide +kernel, by decide +kernel, by decide +kernel⟩
theorem yo_X10_enough : YV yX10_enough cX10_enough 7 (some .int) 3 := ⟨wIM_X10_enough, wSE_X10_enough, wIN_X10, wCD_X10_enough, by decide +kernel, by decide +kernel, by decide +kernel⟩
theorem yo_X10_image : YV yX10_image cX10_image 2 (some .boolean) 1 := ⟨wIM_X10_image, wSE_X10_image, wIN_X10, wCD_X10_image, by decide +kernel, by decide +kernel, by decide +kernel⟩
theorem yo_X10_kept : YV yX10_kept cX10_kept 2 (some .int) 1 := ⟨wIM_X10_kept, wSE_X10_kept, wIN_X10, wCD_X10_kept, by decide +kernel, by decide +kernel, by decide +kernel⟩
theorem yo_X10_keepsBars : YV yX10_keepsBars cX10_keepsBars 2 none 0 := ⟨wIM_X10_keepsBars, wSE_X10_keepsBars, wIN_X10, wCD_X10_keepsBars, by decide +kernel, by decide +kernel, by decide +kernel⟩
theorem yo_X10_keepsTaps : YV yX10_keepsTaps cX10_keepsTaps 2 none 0 := ⟨wIM_X10_keepsTaps, wSE_X10_keepsTaps, wIN_X10, wCD_X10_keepsTaps, by decide +kernel, by decide +kernel, by decide +kernel⟩
theorem yo_X10_keepsTexts : YV yX10_keepsTexts cX10_keepsTexts 2 none 0 := ⟨wIM_X10_keepsTexts, wSE_X10_keepsTexts, wIN_X10, wCD_X10_keepsTexts, by decide +kernel, by decide +kernel, by decide +kernel⟩
theorem yo_X10_look : YV yX10_look cX10_look 2 (some .int) 1 := ⟨wIM_X10_look, wSE_X10_look, wIN_X10, wCD_X10_look, by decide +kernel, by decide +kernel, by decide +kernel⟩
theorem yo_X10_barsThat : YV yX10_barsThat cX10_barsThat 4 (some .int) 1 := ⟨wIM_X10_barsThat, wSE_X10_barsThat, wIN_X10, wCD_X10_barsThat, by decide +kernel, by decide +kernel, by decide +kernel⟩
end
section
/-! ===== new int[N][M], straight off the model's own words: a loop that keeps 'so many rows stand' ===== -/
section MMW
variable {E : CtlPost} {e : Env} {d : Bool} {acts : List Action} {U : State}
theorem mm_new {cA comp : ClassId} {kA : Class} {ty : FieldType} {N : Nat} {iv : Value} (hk : U.vm.classes[cA]? = some kA) (hkind : kA.kind = .array comp ty) (hl : N ≤ e.platform.arrayLengthLimit) (hb : N * componentBytes ty ≤ e.platform.maxHeapBytes) (hf : fits ty iv = true) (h1 : U.heap.size < e.platform.maxCells) (h2 : U.slotsUsed + N ≤ e.platform.maxSlots) {Qa : Addr → Pre}
    (hq : ∀ acts', Qa U.heap.size d acts' (U.pushCell { cls := cA, slots := Array.replicate N iv, vm := .none })) : wp (Jvm.newArray cA N iv) Qa E e d acts U := by
  have g1 : ¬ N > e.platform.arrayLengthLimit := by omega
  have g2 : ¬ N * componentBytes ty > e.platform.maxHeapBytes := by omega
  have hfs : ∀ i v, (Array.replicate N iv)[i]? = some v → U.fitsSlot cA .none i v = true := by
    intro i v hv
    rw [Array.getElem?_replicate] at hv
    by_cases hi : i < N
    · rw [if_pos hi] at hv
      cases hv
      simp [State.fitsSlot, State.slotType?, hk, hkind, hf]
    · rw [if_neg hi] at hv
      cases hv
  simp only [Jvm.newArray, Jvm.arrayFits, wp_bind', W.ask, W.ite, g1, if_false, wp_pure', W.theClass, hk, hkind, g2, W.alloc, W.stop, Option.some.injEq, exists_eq_left', Array.size_replicate]
  rw [if_neg (by omega)]
  exact ⟨h1, h2, hfs, hq _⟩
end MMW
/-- i rows stand, behind the outer array at h -/
def mmR (h : Nat) (cA cI : ClassId) (N M i : Nat) (H0 H : Heap) : Prop := H.size = h + 1 + i ∧ (∀ q : Nat, q < h → H[q]? = H0[q]?) ∧ (∃ oc : Cell, H[h]? = some oc ∧ oc.cls = cA ∧ oc.vm = .none ∧ oc.slots.size = N ∧ ∀ j : Nat, j < i → oc.slots[j]? = some (.ref (h + 1 + j))) ∧ ∀ j : Nat, j < i → H[h + 1 + j]? = some { cls := cI, slots := Array.replicate M (.int 0), vm := .none }
/-- the states that the loop runs through -/
def mmF (cA cI : ClassId) (N M : Nat) (S0 : State) : Nat → State
  | 0 => S0.pushCell { cls := cA, slots := Array.replicate N .null, vm := .none }
  | i + 1 => ((mmF cA cI N M S0 i).pushCell { cls := cI, slots := Array.replicate M (.int 0), vm := .none }).setCell S0.heap.size ((((mmF cA cI N M S0 i).heap[S0.heap.size]?).getD { cls := cI, slots := #[], vm := .none }).setSlot i (.ref (S0.heap.size + 1 + i)))
section MMS
variable {p : Program} {l : Launch} {e : Env} {R : Room} {s : State} {m : MethodId} {args : Array Value} {below : List Frame} {meth : Method} {c : Code} {T : State} {locs : List Loc} {cells slots : Nat}
theorem mm_step (X : Stand p l e R s m args below meth c T locs cells slots) (hexec : p.tables.exec = Jvm.exec) {own : String} {index : Nat} {cA cI : ClassId} {kA kI : Class} {c2 : ClassId} (hown : s.vm.findClass own = some m.cls) (hclink : (Cond.classLink own index ("[" ++ (FieldType.array .int).toString)).before args s = true)
    (hfA : s.vm.findClass ("[" ++ (FieldType.array .int).toString) = some cA) (hkA : s.vm.classes[cA]? = some kA) (hkindA : kA.kind = .array cI (.array .int)) (hkI : s.vm.classes[cI]? = some kI) (hkindI : kI.kind = .array c2 .int)
    {g : JFrame} (hg : g.method = m) (hdg : decode c.code g.pc = .ok (.multianewarray index 2, 4)) {n k : Int32} {N M : Nat} {rest : List Value} (hstack : g.stack = .int k :: .int n :: rest) (hn : ¬ n < 0) (hk : ¬ k < 0) (hN : n.toNatClampNeg = N) (hM : k.toNatClampNeg = M) (hN2 : N ≤ 10000) (hM2 : M ≤ 10000)
    (hcells : cells + (1 + N) ≤ R.cells) (hslots : slots + (N + N * M) ≤ R.slots) :
    ∃ T' : State, mmR T.heap.size cA cI N M N T.heap T'.heap ∧ Stand p l e R s m args below meth c T' locs (cells + 1 + N) (slots + N + N * M) ∧
      ∀ target, Steps p.tables e below (T'.setTop { g with pc := g.pc + 4, stack := .ref T.heap.size :: rest }) target → Steps p.tables e below (T.setTop g) target := by
  subst hg
  have hpl : e.platform.magicAccessors = ({} : Platform).magicAccessors := by rw [X.admits.platform]
  obtain ⟨c0, hfc0, hcl⟩ := Cond.classLink_spec hown hclink e.platform hpl
  cases hfA.symm.trans hfc0
  obtain ⟨hg₁, hwarm₁, -⟩ := State.classEntry (e := e) X.warmed hcl
  generalize T.vm.noted g.method.cls index (.cls cA) = vm₁ at hg₁ hwarm₁
  have hal : s.vm.Alike vm₁ := hwarm₁.alike
  obtain ⟨kA₁, hkA₁, heA⟩ := hal.2.2 _ _ hkA
  obtain ⟨kI₁, hkI₁, heI⟩ := hal.2.2 _ _ hkI
  have hkindA₁ : kA₁.kind = .array cI (.array .int) := by rw [heA]; exact hkindA
  have hkindI₁ : kI₁.kind = .array c2 .int := by rw [heI]; exact hkindI
  have X₁ := X.noted hwarm₁
  obtain ⟨hr1, hr2⟩ := X.roomAbove hcells hslots
  have hlim := Launch.admits_arrayLengthLimit X.admits
  have hmax := Launch.admits_maxHeapBytes X.admits
  -- what a state with i rows is, behind the top frame f
  let Inv : JFrame → Nat → State → Prop := fun f i U => ∃ (T' : State) (L : List Loc), U = T'.setTop f ∧ mmR T.heap.size cA cI N M i T.heap T'.heap ∧ T'.vm = vm₁ ∧ T'.slotsUsed = T.slotsUsed + N + i * M ∧ (∀ q ∈ L, q.base = T.heap.size) ∧ Stand p l e R s g.method args below meth c T' (locs ++ L) (cells + 1 + i) (slots + N + i * M)
  have inv0 : ∀ f : JFrame, Inv f 0 (((T.setVm vm₁).setTop f).pushCell { cls := cA, slots := Array.replicate N .null, vm := .none }) := by
    intro f
    refine ⟨(T.setVm vm₁).pushCell { cls := cA, slots := Array.replicate N .null, vm := .none }, [], by rw [State.pushCell_setTop], ⟨by simp [State.pushCell], fun q hq => State.heap_pushCell_of_lt _ _ hq, ⟨_, State.heap_pushCell_size _ _, rfl, rfl, by simp, fun j hj => by omega⟩, fun j hj => by omega⟩, rfl, by simp, (fun q hq => by cases hq), ?_⟩
    have h := X₁.pushed ({ cls := cA, slots := Array.replicate N .null, vm := .none } : Cell)
    simpa using h
  have inv1 : ∀ (f : JFrame) (i : Nat) (U : State), i < N → Inv f i U → U.heap.size = T.heap.size + 1 + i ∧ U.vm = vm₁ ∧ U.slotsUsed = T.slotsUsed + N + i * M ∧ ∃ oc : Cell, U.heap[T.heap.size]? = some oc ∧ oc.cls = cA ∧ oc.vm = .none ∧ oc.slots.size = N ∧
      Inv f (i + 1) ((U.pushCell { cls := cI, slots := Array.replicate M (.int 0), vm := .none }).setCell T.heap.size (oc.setSlot i (.ref (T.heap.size + 1 + i)))) := by
    rintro f i U hi ⟨T', L, rfl, ⟨h1, h2, ⟨oc, o1, o2, o3, o4, o5⟩, h4⟩, hv, hu, hL, XT⟩
    refine ⟨h1, hv, hu, oc, o1, o2, o3, o4, ?_⟩
    have hlt : T.heap.size < T'.heap.size := by omega
    have o1' : (T'.pushCell { cls := cI, slots := Array.replicate M (.int 0), vm := .none }).heap[T.heap.size]? = some oc := by rw [State.heap_pushCell_of_lt (h := hlt)]; exact o1
    refine ⟨(T'.pushCell { cls := cI, slots := Array.replicate M (.int 0), vm := .none }).setCell T.heap.size (oc.setSlot i (.ref (T.heap.size + 1 + i))), L ++ [⟨T.heap.size, i⟩], by rw [State.pushCell_setTop, State.setCell_setTop], ⟨?_, fun q hq => ?_, ⟨_, State.heap_setCell_self o1', o2, o3, by rw [k2_slotsz]; exact o4, fun j hj => ?_⟩, fun j hj => ?_⟩, hv, ?_, ?_, ?_⟩
    · rw [size_setCell, size_pushCell]
      omega
    · rw [State.heap_setCell_other (show T.heap.size ≠ q by omega), State.heap_pushCell_of_lt (h := show q < T'.heap.size by omega)]
      exact h2 q hq
    · by_cases e : j = i
      · subst e
        exact Cell.slots_setSlot_self _ (by rw [o4]; exact hi)
      · rw [slot_ne _ _ (Ne.symm e)]
        exact o5 j (by omega)
    · rw [State.heap_setCell_other (show T.heap.size ≠ T.heap.size + 1 + j by omega)]
      by_cases e : j = i
      · subst e
        rw [← h1]
        exact State.heap_pushCell_size _ _
      · rw [State.heap_pushCell_of_lt (h := show T.heap.size + 1 + j < T'.heap.size by omega)]
        exact h4 j (by omega)
    · show (T'.pushCell _).slotsUsed = _
      simp [hu, Nat.succ_mul]
      omega
    · intro q hq
      rcases List.mem_append.mp hq with h | h
      · exact hL q h
      · rw [List.mem_singleton.mp h]
    · have h := (XT.pushed ({ cls := cI, slots := Array.replicate M (.int 0), vm := .none } : Cell)).stored o1' i (.ref (T.heap.size + 1 + i))
      have e1 : ({ cls := cI, slots := Array.replicate M (.int 0), vm := .none } : Cell).slots.size = M := by simp
      rw [e1] at h
      rw [← List.append_assoc, show slots + N + (i + 1) * M = slots + N + i * M + M by rw [Nat.succ_mul]; omega]
      exact h
  have invM : ∀ (f : JFrame) (i : Nat), i ≤ N → Inv f i (mmF cA cI N M ((T.setVm vm₁).setTop f) i) := by
    intro f i
    induction i with
    | zero => exact fun _ => inv0 f
    | succ i ih =>
      intro hi
      obtain ⟨u1, u2, u3, oc, o1, o2, o3, o4, hI'⟩ := inv1 f i _ (by omega) (ih (by omega))
      have e1 : (mmF cA cI N M ((T.setVm vm₁).setTop f) i).heap[((T.setVm vm₁).setTop f).heap.size]? = some oc := o1
      show Inv f (i + 1) (State.setCell _ _ _)
      rw [e1]
      exact hI'
  obtain ⟨T', L, hTF, hR', -, -, hL, XT0⟩ := invM { g with stack := rest } N (Nat.le_refl _)
  have XT : Stand p l e R s g.method args below meth c T' locs (cells + 1 + N) (slots + N + N * M) := XT0.forget (fun q hq => by rw [hL q hq]; exact X.same.2.1)
  have hmake : ∀ (f : JFrame) (E : CtlPost) (d : Bool) (acts : List Action) (Qa : Addr → Pre), (∀ d' acts', Qa T.heap.size d' acts' (mmF cA cI N M ((T.setVm vm₁).setTop f) N)) → wp (multianewarray.make cA [n, k]) Qa E e d acts ((T.setVm vm₁).setTop f) := by
    intro f E d acts Qa hQa
    have hfind : ([k].find? (· < 0)) = none := by simp [hk]
    rw [multianewarray.make]
    simp only [wp_bind', W.ite, hn, if_false, wp_pure', W.theClass, State.vm_setTop, State.vm_setVm, hkA₁, hkindA₁, Option.some.injEq, exists_eq_left', hN]
    refine mm_new (kA := kA₁) (comp := cI) (ty := .array .int) hkA₁ hkindA₁ (by rw [hlim]; omega) (by rw [hmax]; show N * 4 ≤ _; omega) rfl (by show T.heap.size < _; omega) (by show T.slotsUsed + N ≤ _; omega) (fun acts' => ?_)
    simp only [hfind]
    rw [ite_self, wp_bind', Std.Legacy.Range.forIn_eq_forIn_range']
    have hsz : ([:N] : Std.Legacy.Range).size = N := by simp [Std.Legacy.Range.size]
    rw [hsz]
    show wp (forIn (List.range' 0 N 1) PUnit.unit _) _ E e d acts' _
    refine wp_forIn_inv (fun rest U => ∃ i, i ≤ N ∧ rest = List.range' i (N - i) ∧ U = mmF cA cI N M ((T.setVm vm₁).setTop f) i) _ _ ⟨0, Nat.zero_le _, rfl, rfl⟩ ?_ ?_
    · rintro x rest U d' acts2 Q' ⟨i, hi, hl, rfl⟩ hnext
      have hlt : i < N := by
        rcases Nat.lt_or_ge i N with h | h
        · exact h
        · rw [show N - i = 0 by omega] at hl
          cases hl
      rw [show N - i = (N - (i + 1)) + 1 by omega, List.range'_succ] at hl
      obtain ⟨rfl, rfl⟩ := List.cons.inj hl
      obtain ⟨u1, u2, u3, oc, o1, o2, o3, o4, -⟩ := inv1 f x _ hlt (invM f x hi)
      have enext : mmF cA cI N M ((T.setVm vm₁).setTop f) (x + 1) = ((mmF cA cI N M ((T.setVm vm₁).setTop f) x).pushCell { cls := cI, slots := Array.replicate M (.int 0), vm := .none }).setCell T.heap.size (oc.setSlot x (.ref (T.heap.size + 1 + x))) := by
        have e1 : (mmF cA cI N M ((T.setVm vm₁).setTop f) x).heap[((T.setVm vm₁).setTop f).heap.size]? = some oc := o1
        show State.setCell _ _ _ = _
        rw [e1]
        rfl
      have hmul : x * M + M ≤ N * M := by
        have := Nat.mul_le_mul_right M (show x + 1 ≤ N from hlt)
        rw [Nat.succ_mul] at this
        exact this
      simp only [wp_bind']
      rw [multianewarray.make]
      simp only [wp_bind', W.ite, hk, if_false, wp_pure', W.theClass, u2, hkI₁, hkindI₁, Option.some.injEq, exists_eq_left', hM]
      refine mm_new (kA := kI₁) (comp := c2) (ty := .int) (by rw [u2]; exact hkI₁) hkindI₁ (by rw [hlim]; omega) (by rw [hmax]; show M * 4 ≤ _; omega) rfl (by rw [u1]; omega) (by rw [u3]; omega) (fun acts3 => ?_)
      simp only [wp_bind', W.writeLoc, wp_pure']
      rw [u1]
      refine ⟨oc, ?_, by rw [o3]; simp, by rw [o4]; exact hlt, ?_, hnext _ _ _ ⟨x + 1, hlt, rfl, enext.symm⟩⟩
      · show ((mmF cA cI N M ((T.setVm vm₁).setTop f) x).pushCell _).heap[T.heap.size]? = some oc
        rw [State.heap_pushCell_of_lt (h := show T.heap.size < (mmF cA cI N M ((T.setVm vm₁).setTop f) x).heap.size by omega)]
        exact o1
      · rw [o2, o3]
        simp [State.fitsSlot, State.slotType?, u2, hkA₁, hkindA₁, fits]
    · rintro U d' acts2 ⟨i, hi, hl, rfl⟩
      have hiN : i = N := by
        rcases Nat.lt_or_ge i N with h | h
        · rw [show N - i = (N - (i + 1)) + 1 by omega, List.range'_succ] at hl
          cases hl
        · omega
      subst hiN
      simp only [wp_pure']
      exact hQa _ _
  refine ⟨T', hR', XT, fun target hrest => ?_⟩
  jvm_step X.here [hexec, hdg]
  simp only [multianewarray.sem, wp_bind', W.resolveClassAt_links (State.method?_setTop g X.here.top) hg₁]
  rw [W.popN, if_neg (by decide)]
  refine ⟨g, State.topJava?_setTop' (s := T.setVm vm₁) g X.here.top, [.int n, .int k], rest, rfl, hstack, ?_⟩
  simp only [List.mapM_cons, List.mapM_nil, wp_bind', wp_pure']
  have eS : ((T.setTop g).setVm vm₁).setTop { g with stack := rest } = (T.setVm vm₁).setTop { g with stack := rest } := by
    show ((T.setVm vm₁).setTop g).setTop _ = _
    rw [State.setTop_setTop]
  rw [eS]
  refine hmake _ _ _ _ _ (fun d' acts' => ?_)
  rw [hTF]
  simp only [wp_bind', W.mark, W.pushRef, State.topJava?_setTop' _ XT.here.top, Option.some.injEq, exists_eq_left', State.setTop_setTop, State.heap_setTop]
  intro acts
  simp [jvm, XT.here.top]
  exact hrest
end MMS
end
section
/-! ===== making cells ===== -/
def gU (G : Nat → Option Nat) (q t : Nat) : Nat → Option Nat := fun x => if x = q then some t else G x
theorem gU_at {G : Nat → Option Nat} {q t : Nat} : gU G q t q = some t := if_pos rfl
theorem gU_ne {G : Nat → Option Nat} {q t x : Nat} (h : x ≠ q) : gU G q t x = G x := if_neg h
theorem gU_mono {G : Nat → Option Nat} {q t : Nat} (h : G q = none) : ∀ x u, G x = some u → gU G q t x = some u := by
  intro x u hx
  rw [gU_ne (fun e => by rw [e, h] at hx; cases hx)]
  exact hx
/-- what is typed lies below -/
def GB (G : Nat → Option Nat) (z : Nat) : Prop := ∀ q, z ≤ q → G q = none
theorem TY.gb {K : KE} {G : Nat → Option Nat} {H : Heap} (h : TY K G H) : GB G H.size := by
  intro q hq
  cases e : G q with
  | none => rfl
  | some t => exact absurd (h.lt e) (by omega)
/-- an object that isn't typed yet: class number, fields -/
def RAW (K : KE) (H : Heap) (a ci : Nat) (vs : List Value) : Prop := va_at K.1 vwCl (a, .inr (ci, vs)) H
theorem RAW.kept {K : KE} {H H1 : Heap} {a ci : Nat} {vs : List Value} (h : RAW K H a ci vs) (hq : H1[a]? = H[a]?) : RAW K H1 a ci vs := va_at.kept h hq
theorem RAW.lt {K : KE} {H : Heap} {a ci : Nat} {vs : List Value} (h : RAW K H a ci vs) : a < H.size := va_at.lt h
theorem TY.kept {K : KE} {G : Nat → Option Nat} {H H1 : Heap} (h : TY K G H) (hq : ∀ q t, G q = some t → H1[q]? = H[q]?) : TY K G H1 := by
  intro a t ha
  obtain ⟨σ, h1, h2⟩ := h a t ha
  exact ⟨σ, h1, h2.kept (hq a t ha)⟩
theorem TY.ext {K : KE} {G : Nat → Option Nat} {H : Heap} (h : TY K G H) {a t : Nat} {σ : SH} (hn : G a = none) (hs : rgT[t]? = some σ) (hc : CellOk K (gU G a t) H a σ) : TY K (gU G a t) H := by
  intro b u hb
  by_cases e : b = a
  · subst e
    rw [gU_at] at hb
    cases hb
    exact ⟨σ, hs, hc⟩
  · rw [gU_ne e] at hb
    obtain ⟨σ', h1, h2⟩ := h b u hb
    exact ⟨σ', h1, h2.mono (gU_mono hn)⟩
theorem x_born {K : KE} {G : Nat → Option Nat} {H : Heap} {a t ci N : Nat} {Cn : String} {T : u_T} {fs : List FT} {vs : List Value} (hT : TY K G H) (hn : G a = none) (hR : RAW K H a ci vs) (hc : vwCl[ci]? = some (Cn, T, N)) (hs : rgT[t]? = some (.inl (ci, fs))) (hl : fs.length = N) (hok : ∀ (k : Nat) (f : FT), fs[k]? = some f → ∃ v, vs[k]? = some v ∧ OkV (gU G a t) f v) : TY K (gU G a t) H := by
  refine hT.ext hn hs ?_
  obtain ⟨q, h1, cell, h2, h3, h4, h5⟩ := hR
  cases h1.symm.trans hc
  refine ⟨cell, h2, h3, h4, fun k f hk => ?_⟩
  obtain ⟨v, e1, e2⟩ := hok k f hk
  refine ⟨v, ?_, e2⟩
  have hkl : k < fs.length := (List.getElem?_eq_some_iff.mp hk).1
  rw [h5 k (by rw [← hl]; exact hkl)]
  simp [vp_V, e1]
section XN
variable {p : Program} {l : Launch} {e : Env} {R : Room} {s : State} {m : MethodId} {args : Array Value} {below : List Frame} {meth : Method} {c : Code} {H : Heap} {locs : List Loc} {cells slots : Nat} {Q : State → Prop}
variable {K : KE} {own nm : String} {b : ByteArray} {n : Nat} {r : Option FieldType} {pc : Nat} {ls : Array Slot} {rest st : List Value} {A A0 A1 : Nat → Prop} {H0 : Heap} {G : Nat → Option Nat} {post : Option Value → Heap → Prop} {mc ms : Nat}
theorem x_S1 {H1 : Heap} (hS : va_S A H0 H locs) (hz : H.size ≤ H1.size) (ho : ∀ x : Nat, x < H.size → H1[x]? = H[x]?) : va_S A H0 H1 locs :=
  ⟨Nat.le_trans hS.1 hz, fun q h1 h2 => (ho q (Nat.lt_of_lt_of_le h1 hS.1)).trans (hS.2.1 q h1 h2), hS.2.2⟩
theorem x_objInit (C : CX p K s m args meth c own b n r nm) {idx a : Nat} (hw : Cond.methodLink own idx objectInit ∈ okW) (hw2 : Cond.instanceMethod objectInit ∈ okW) (hw3 : Cond.code objectInit ⟨#[0xb1]⟩ 1 none ∈ okW) (hsz : ls.size = n) (hR : 1 ≤ R.frames ∧ (rest.map fun v => v.category).sum + 12 ≤ R.locals) (hd : decode b pc = .ok (.invokespecial idx, 3))
    (kk : W p l e R s m args below meth c H locs cells slots Q (F0 m (pc + 3) ls rest)) : W p l e R s m args below meth c H locs cells slots Q (F0 m pc ls (.ref a :: rest)) := by
  obtain ⟨hx, hb, hml, hown, hts, hK, hr, hlocks, hnm⟩ := C
  exact W.objInit hx hb hown (hts _ hw) (hts _ hw2) (hts _ hw3) rfl (by rw [hml]; exact hsz) rfl hd hR.1 (by show 2 * 0 + _ + 12 ≤ _; have := hR.2; omega) kk
/-- new int[N] -/
theorem x_newa (C : CX p K s m args meth c own b n r nm) (hT : TY K G H) (hS0 : va_S A H0 H locs) {t N : Nat} {lo hi : Int} {v : Int32} (hw : Cond.arrayClass .int ∈ okW) (hs : rgT[t]? = some (.inr (0, N, (0, lo, hi)))) (h0 : lo ≤ 0 ∧ 0 ≤ hi) (hv : v.toInt = N) (hN : N ≤ 100000) (hR : cells + 1 ≤ R.cells ∧ slots + N ≤ R.slots) (hd : decode b pc = .ok (.newarray .int, 2))
    (kk : ∀ H1 : Heap, TY K (gU G H.size t) H1 → va_S A H0 H1 locs → (∀ x : Nat, x < H.size → H1[x]? = H[x]?) → H1.size = H.size + 1 → (∀ j : Nat, fI H1 H.size j = 0) → W p l e R s m args below meth c H1 locs (cells + 1) (slots + N) Q (F0 m (pc + 2) ls (.ref H.size :: rest))) : W p l e R s m args below meth c H locs cells slots Q (F0 m pc ls (.int v :: rest)) := by
  obtain ⟨hx, hb, hml, hown, hts, hK, hr, hlocks, hnm⟩ := C
  have hv0 : ¬ v < 0 := by
    intro h
    have := Int32.lt_iff_toInt_lt.mp h
    have e0 : (0 : Int32).toInt = 0 := rfl
    omega
  have hvn : v.toNatClampNeg = N := by
    show v.toInt.toNat = N
    omega
  refine va_newaK (atype := .int) hx hb (hts (Cond.arrayClass .int) hw) rfl hd rfl hv0 hvn (by show N * 4 ≤ 536870912; omega) hR.1 hR.2 rfl fun H1 cA e1 z1 o1 hAr hNm => ?_
  have hcA : cA = K.2.1 0 := Option.some.inj (hNm.symm.trans (hK.1.2 0 _ rfl).2)
  subst hcA
  have hn : G H.size = none := hT.gb _ (Nat.le_refl _)
  have hT1 : TY K G H1 := hT.kept (fun q t hq => o1 q (hT.lt hq))
  refine kk H1 (hT1.ext hn hs ?_) (x_S1 hS0 (by omega) o1) o1 z1 (fun j => ?_)
  · refine ⟨_, e1, rfl, rfl, arrV_size _ _ _, fun j hj => ⟨.int 0, by rw [arrV_read _ _ hj]; rfl, 0, rfl, h0.1, h0.2⟩⟩
  · by_cases hj : j < N
    · exact fI_at e1 (by rw [arrV_read _ _ hj]; rfl)
    · unfold fI fV
      rw [e1]
      have : (arrV (K.2.1 0) N (fun _ => defaultValue (newarray.typeOf .int))).slots[j]? = none := Array.getElem?_eq_none (by rw [arrV_size]; omega)
      simp [this]
/-- new C: an object that isn't typed yet -/
theorem x_new (C : CX p K s m args meth c own b n r nm) (hT : TY K G H) (hS0 : va_S A H0 H locs) {idx ci N : Nat} {Cn : String} {T : u_T} {ty0 : Nat → FieldType} {vs : List Value} (hc : vwCl[ci]? = some (Cn, T, N)) (hin : ∀ w ∈ u_ws Cn T N, w ∈ okW) (hty : ∀ k, k < N → parseFieldDescriptor (T k).2.2.1 = some (ty0 k)) (hw : Cond.classLink own idx Cn ∈ okW) (hw2 : Cond.instantiable Cn N ∈ okW) (hw3 : Cond.initialized Cn ∈ okW) (hfs : ∀ j, j < N → defaultValue (ty0 j) = vp_V vs j) (hR : cells + 1 ≤ R.cells ∧ slots + N ≤ R.slots) (hd : decode b pc = .ok (.new idx, 3))
    (kk : ∀ H1 : Heap, RAW K H1 H.size ci vs → TY K G H1 → va_S A H0 H1 locs → (∀ x : Nat, x < H.size → H1[x]? = H[x]?) → H1.size = H.size + 1 → W p l e R s m args below meth c H1 locs (cells + 1) (slots + N) Q (F0 m (pc + 3) ls (.ref H.size :: rest))) : W p l e R s m args below meth c H locs cells slots Q (F0 m pc ls rest) := by
  obtain ⟨hx, hb, hml, hown, hts, hK, hr, hlocks, hnm⟩ := C
  have hKn := hK.1.1 ci _ hc
  refine W.newcK hx hb hown (hts _ hw) (hts _ hw2) (hts _ hw3) rfl hd hR.1 hR.2 hKn.2.1 rfl fun H1 kC hkC e1 z1 o1 => ?_
  exact kk H1 ⟨_, hc, (u_born ty0 hts hin hKn hkC e1 hty).to hfs⟩ (hT.kept (fun q t hq => o1 q (hT.lt hq))) (x_S1 hS0 (by omega) o1) o1 z1
theorem x_getR (C : CX p K s m args meth c own b n r nm) {ci k N idx a : Nat} {Cn : String} {T : u_T} {vs : List Value} {v : Value} (hR : RAW K H a ci vs) (hc : vwCl[ci]? = some (Cn, T, N)) (hin : ∀ w ∈ u_ws Cn T N, w ∈ okW) (hk : k < N) (hw : Cond.fieldLink own idx (T k).1 (T k).2.1 (T k).2.2.1 ∈ okW) (hv : vs[k]? = some v) (hd : decode b pc = .ok (.getfield idx, 3)) (kk : W p l e R s m args below meth c H locs cells slots Q (F0 m (pc + 3) ls (v :: rest))) : W p l e R s m args below meth c H locs cells slots Q (F0 m pc ls (.ref a :: rest)) := by
  obtain ⟨q, h1, cell, h2, h3, h4, h5⟩ := hR
  cases h1.symm.trans hc
  exact x_get C hc hin hk hw h2 h4 (by rw [h5 k hk]; simp [vp_V, hv]) hd kk
/-- a field of an object that isn't typed yet is written -/
theorem x_putR (C : CX p K s m args meth c own b n r nm) (hT : TY K G H) (hS0 : va_S A H0 H locs) {ci k N idx a : Nat} {Cn : String} {T : u_T} {ty0 : Nat → FieldType} {vs : List Value} {v : Value} (hR : RAW K H a ci vs) (hGa : G a = none) (hc : vwCl[ci]? = some (Cn, T, N)) (hin : ∀ w ∈ u_ws Cn T N, w ∈ okW) (hty : ∀ k, k < N → parseFieldDescriptor (T k).2.2.1 = some (ty0 k)) (hnm : ∀ a, a < N → ∀ b, b < N → a ≠ b → (T a).2.1 ≠ (T b).2.1) (hk : k < N) (hfin : (T k).2.2.2 = false ∨ ((T k).2.2.2 = true ∧ nm = "<init>" ∧ (T k).1 = own)) (hw : Cond.fieldLink own idx (T k).1 (T k).2.1 (T k).2.2.1 ∈ okW) (hl : k < vs.length) (hn1 : narrow (ty0 k) v = v) (hn2 : fits (ty0 k) v = true) (hA : A a) (hd : decode b pc = .ok (.putfield idx, 3))
    (kk : ∀ (H1 : Heap) (locs1 : List Loc), RAW K H1 a ci (vs.set k v) → TY K G H1 → va_S A H0 H1 locs1 → (∀ q : Nat, q ≠ a → H1[q]? = H[q]?) → H1.size = H.size → W p l e R s m args below meth c H1 locs1 cells slots Q (F0 m (pc + 3) ls rest)) : W p l e R s m args below meth c H locs cells slots Q (F0 m pc ls (v :: .ref a :: rest)) := by
  obtain ⟨hx, hb, hml, hown, hts, hK, hr, hlocks, hnm0⟩ := C
  have hap := x_apart hK hts hin ty0 hty hnm hc
  obtain ⟨q, h1, cell, h2, h3, h4, h5⟩ := hR
  cases h1.symm.trans hc
  obtain ⟨hS, hfc, kC, hkC, hkind⟩ := hK.1.1 ci _ hc
  obtain ⟨cf, kf, fi, fd, hi, hsl⟩ := hS k hk
  have hlay := hts _ (hin _ (u_in_lay hk))
  unfold u_lay at hlay
  have hst := (u_facts hfc hkC (u_lays hts hin hk) hi).1
  have key : ∀ H' : Heap, H'[a]? = some (cell.setSlot (K.1.2 ci k) v) → H'.size = H.size → (∀ q, q ≠ a → H'[q]? = H[q]?) → W p l e R s m args below meth c H' (locs ++ [⟨a, K.1.2 ci k⟩]) cells slots Q (F0 m (pc + 3) ls rest) := fun H' e1 e2 e3 =>
    kk H' _ ⟨_, hc, t_OB.to (V := updV (vp_V vs) k v) ⟨_, e1, h3, h4, t_set h5 hap hk v⟩ (fun j _ => vp_updV_set hl v j)⟩ (hT.kept (fun q t hq => e3 q (fun z => by rw [z, hGa] at hq; cases hq))) (hS0.put e2 e3 hA) e3 e2
  rcases hfin with hfin | ⟨hfin, hni, hdecl⟩
  · rw [if_neg (by rw [hfin]; decide)] at hlay
    have h6 := u_store hfc hkC hkind hlay hi (hty k hk) hn1 hn2
    refine W.putK hx hb (f := fd) ⟨hown, hts _ hw, ⟨_, _, _, hi⟩, hst⟩ (by rw [h3]; exact h6) h2 h4 (by rw [hsl]; exact k2_hasslot (h5 k hk)) rfl rfl hd fun H' e1 e2 e3 => ?_
    rw [hsl] at e1 ⊢
    exact key H' e1 e2 e3
  · rw [if_pos hfin] at hlay
    have hcf : m.cls = cf := by
      obtain ⟨_, _, c', _, _, _, -, -, hf', -, -, -, hown2, -⟩ := Cond.laysFinal_spec hlay
      have e1 : c' = cf := by have := hi.symm.trans hf'; simp at this; exact this.1.symm
      rw [hdecl] at hown2
      rw [← e1]; exact Option.some.inj (hown.symm.trans hown2)
    have h6 := u_fits hfc hkC hkind (Or.inr hlay) hi (hty k hk) hn1 hn2
    refine W.putFinK hx hb hown (hts _ hw) hi hst hcf (by rw [hnm0]; exact hni) (by rw [h3]; exact h6) h2 h4 (by rw [hsl]; exact k2_hasslot (h5 k hk)) rfl rfl hd fun H' e1 e2 e3 => ?_
    rw [hsl] at e1 ⊢
    exact key H' e1 e2 e3
/-- what the tables say of int[][] -/
theorem ao_spec {U : State} (h : ao_ok U) : ∃ (comp c : ClassId) (k : Class), U.vm.findClass (FieldType.array .int).toString = some comp ∧ U.vm.classes[c]? = some k ∧ k.kind = .array comp (.array .int) ∧ U.vm.findClass ("[" ++ (FieldType.array .int).toString) = some c := by
  unfold ao_ok at h
  simp only [Cond.before, Cond.holds, Cond.value, beq_iff_eq] at h
  obtain ⟨comp, hc, h⟩ := Option.bind_eq_some_iff.mp h
  obtain ⟨c, hi, h⟩ := Option.bind_eq_some_iff.mp h
  obtain ⟨k, hk, h⟩ := Option.map_eq_some_iff.mp h
  obtain ⟨hlt, hp, -⟩ := Array.findIdx?_eq_some_iff_getElem.mp hi
  have hkk : U.vm.classes[c] = k := (Array.getElem?_eq_some_iff.mp hk).2
  rw [hkk] at hp
  cases hkind : k.kind with
  | array component ty =>
    rw [hkind] at h hp
    simp at h hp
    exact ⟨comp, c, k, hc, hk, by rw [hkind, hp, h.1], h.2⟩
  | _ => rw [hkind] at h; simp at h
/-- new int[N][M] -/
def gM (G : Nat → Option Nat) (q N to' ti' : Nat) : Nat → Option Nat := fun x => if x = q then some to' else if q < x ∧ x ≤ q + N then some ti' else G x
theorem x_mna (C : CX p K s m args meth c own b n r nm) (hT : TY K G H) (hS0 : va_S A H0 H locs) {idx tu tv N M : Nat} {lo hi bb : Int} {v w : Int32} (hw : Cond.arrayClass .int ∈ okW) (hwc : Cond.classLink own idx ("[" ++ (FieldType.array .int).toString) ∈ okW) (hs : rgT[tu]? = some (.inr (3, N, (2, (tv : Int), bb)))) (hs2 : rgT[tv]? = some (.inr (0, M, (0, lo, hi)))) (h0 : lo ≤ 0 ∧ 0 ≤ hi) (hv : v.toInt = N) (hwv : w.toInt = M) (hN : N ≤ 10000) (hM : M ≤ 10000) (hR : cells + (1 + N) ≤ R.cells ∧ slots + (N + N * M) ≤ R.slots) (hd : decode b pc = .ok (.multianewarray idx 2, 4))
    (kk : ∀ H1 : Heap, TY K (gM G H.size N tu tv) H1 → va_S A H0 H1 locs → (∀ x : Nat, x < H.size → H1[x]? = H[x]?) → H1.size = H.size + 1 + N → W p l e R s m args below meth c H1 locs (cells + 1 + N) (slots + N + N * M) Q (F0 m (pc + 4) ls (.ref H.size :: rest))) : W p l e R s m args below meth c H locs cells slots Q (F0 m pc ls (.int w :: .int v :: rest)) := by
  obtain ⟨hx, hb, hml, hown, hts, hK, hr, hlocks, hnm⟩ := C
  have e0 : (0 : Int32).toInt = 0 := rfl
  have hv0 : ¬ v < 0 := by intro h; have := Int32.lt_iff_toInt_lt.mp h; omega
  have hw0 : ¬ w < 0 := by intro h; have := Int32.lt_iff_toInt_lt.mp h; omega
  have hvn : v.toNatClampNeg = N := by show v.toInt.toNat = N; omega
  have hwn : w.toNatClampNeg = M := by show w.toInt.toNat = M; omega
  intro T hTh Xs
  obtain ⟨-, kA, hkA, comp, hkindA⟩ := (hK.1.2 3 _ rfl).1 0 (fun _ => .null)
  obtain ⟨-, kI, hkI, c2, hkindI⟩ := (hK.1.2 0 _ rfl).1 0 (fun _ => .null)
  have fA := (hK.1.2 3 _ rfl).2
  have fI0 : s.vm.findClass (FieldType.array .int).toString = some (K.2.1 0) := (hK.1.2 0 _ rfl).2
  have hcomp : comp = K.2.1 0 := by
    obtain ⟨cp, cA', kA', g1, g2, g3, g4⟩ := ao_spec hK.2.2.2.2
    cases fA.symm.trans g4
    cases hkA.symm.trans g2
    have : comp = cp := by rw [hkindA] at g3; cases g3; rfl
    rw [this]
    exact Option.some.inj (g1.symm.trans fI0)
  subst hcomp
  obtain ⟨T', hmm, X', step⟩ := mm_step Xs hx hown (hts _ hwc) fA hkA hkindA hkI hkindI (g := F0 m pc ls (.int w :: .int v :: rest)) rfl (by rw [hb]; exact hd) rfl hv0 hw0 hvn hwn hN hM hR.1 hR.2
  rw [hTh] at hmm
  obtain ⟨f1, hold, ⟨oc, f2, oc1, oc2, oc3, hslot⟩, hrow⟩ := hmm
  have hTY : TY K (gM G H.size N tu tv) T'.heap := by
    have hmono : ∀ x u, G x = some u → gM G H.size N tu tv x = some u := by
      intro x u hx
      have := hT.lt hx
      show (if x = H.size then _ else if H.size < x ∧ x ≤ H.size + N then _ else G x) = _
      rw [if_neg (by omega), if_neg (by omega)]
      exact hx
    intro a t ha
    by_cases e1 : a = H.size
    · subst e1
      have : gM G H.size N tu tv H.size = some tu := if_pos rfl
      rw [this] at ha
      cases ha
      refine ⟨_, hs, _, f2, oc1, oc2, oc3, fun j hj => ⟨_, hslot j hj, H.size + 1 + j, rfl, ?_⟩⟩
      show (if H.size + 1 + j = H.size then _ else if H.size < H.size + 1 + j ∧ H.size + 1 + j ≤ H.size + N then some tv else G _) = some (Int.toNat (tv : Int))
      have hj' : j < N := hj
      rw [if_neg (by omega), if_pos (by omega)]
      rfl
    · by_cases e2 : H.size < a ∧ a ≤ H.size + N
      · have : gM G H.size N tu tv a = some tv := by
          show (if a = H.size then _ else if H.size < a ∧ a ≤ H.size + N then _ else G a) = _
          rw [if_neg e1, if_pos e2]
        rw [this] at ha
        cases ha
        have hr2 := hrow (a - H.size - 1) (by omega)
        rw [show H.size + 1 + (a - H.size - 1) = a by omega] at hr2
        refine ⟨_, hs2, _, hr2, rfl, rfl, by simp, fun j hj => ⟨.int 0, by simp [hj], 0, rfl, h0.1, h0.2⟩⟩
      · have : gM G H.size N tu tv a = G a := by
          show (if a = H.size then _ else if H.size < a ∧ a ≤ H.size + N then _ else G a) = _
          rw [if_neg e1, if_neg e2]
        rw [this] at ha
        obtain ⟨σ, h1, h2⟩ := hT a t ha
        exact ⟨σ, h1, (h2.kept (hold a (hT.lt ha))).mono hmono⟩
  obtain ⟨t, a1, b1⟩ := kk T'.heap hTY (x_S1 hS0 (by omega) hold) hold f1 T' rfl X'
  refine ⟨t, step t ?_, b1⟩
  have ee : T.heap.size = H.size := by rw [hTh]
  rw [ee]
  exact a1
end XN
end
section
/-! ===== rows with names for what comes ===== -/
theorem i_lt {x y : Int32} (h : x < y) : x.toInt < y.toInt := Int32.lt_iff_toInt_lt.mp h
theorem i_nlt {x y : Int32} (h : ¬ x < y) : y.toInt ≤ x.toInt := by
  have : ¬ x.toInt < y.toInt := fun q => h (Int32.lt_iff_toInt_lt.mpr q)
  omega
theorem i_le {x y : Int32} (h : x ≤ y) : x.toInt ≤ y.toInt := Int32.le_iff_toInt_le.mp h
theorem i_nle {x y : Int32} (h : ¬ x ≤ y) : y.toInt < x.toInt := by
  have : ¬ x.toInt ≤ y.toInt := fun q => h (Int32.le_iff_toInt_le.mpr q)
  omega
theorem i_eq {x y : Int32} (h : x = y) : x.toInt = y.toInt := by rw [h]
theorem i_ne {x y : Int32} (h : ¬ x = y) : x.toInt ≠ y.toInt := fun q => h (Int32.toInt_inj.mp q)
theorem i_of {x y : Int32} (h : x.toInt = y.toInt) : x = y := Int32.toInt_inj.mp h
theorem i_rng (x : Int32) : -2147483648 ≤ x.toInt ∧ x.toInt ≤ 2147483647 := by
  have h1 := Int32.le_toInt x
  have h2 := Int32.toInt_lt x
  omega
theorem i_bm {z : Int} (h1 : -2147483648 ≤ z) (h2 : z ≤ 2147483647) : z.bmod (2 ^ 32) = z := by
  apply Int.bmod_eq_of_le <;> omega
theorem i_add {x y z : Int32} (e : z = x + y) (h : -2147483648 ≤ x.toInt + y.toInt ∧ x.toInt + y.toInt ≤ 2147483647) : z.toInt = x.toInt + y.toInt := by
  rw [e, Int32.toInt_add]
  exact i_bm h.1 h.2
theorem i_sub {x y z : Int32} (e : z = x - y) (h : -2147483648 ≤ x.toInt - y.toInt ∧ x.toInt - y.toInt ≤ 2147483647) : z.toInt = x.toInt - y.toInt := by
  rw [e, Int32.toInt_sub]
  exact i_bm h.1 h.2
theorem i_mul {x y z : Int32} (e : z = x * y) (h : -2147483648 ≤ x.toInt * y.toInt ∧ x.toInt * y.toInt ≤ 2147483647) : z.toInt = x.toInt * y.toInt := by
  rw [e, Int32.toInt_mul]
  exact i_bm h.1 h.2
theorem i_cl {x : Int32} (h : 0 ≤ x.toInt) : (x.toNatClampNeg : Int) = x.toInt := by
  show ((x.toInt.toNat : Nat) : Int) = x.toInt
  omega
section X3
variable {p : Program} {l : Launch} {e : Env} {R : Room} {s : State} {m : MethodId} {args : Array Value} {below : List Frame} {meth : Method} {c : Code} {H : Heap} {locs : List Loc} {cells slots : Nat} {Q : State → Prop}
variable {K : KE} {own nm : String} {b : ByteArray} {n : Nat} {r : Option FieldType} {pc : Nat} {ls : Array Slot} {rest st : List Value} {A A0 A1 : Nat → Prop} {H0 : Heap} {G : Nat → Option Nat} {post : Option Value → Heap → Prop} {mc ms : Nat}
theorem x_gi (C : CX p K s m args meth c own b n r nm) (hT : TY K G H) {ci k N idx a t : Nat} {Cn : String} {T : u_T} {fs : List FT} {lo hi : Int} (hc : vwCl[ci]? = some (Cn, T, N)) (hin : ∀ w ∈ u_ws Cn T N, w ∈ okW) (hk : k < N) (hw : Cond.fieldLink own idx (T k).1 (T k).2.1 (T k).2.2.1 ∈ okW)
    (hG : G a = some t) (hs : rgT[t]? = some (.inl (ci, fs))) (hf : fs[k]? = some (0, lo, hi)) (hd : decode b pc = .ok (.getfield idx, 3))
    (kk : ∀ x : Int32, x = fI H a (K.1.2 ci k) → lo ≤ x.toInt ∧ x.toInt ≤ hi → W p l e R s m args below meth c H locs cells slots Q (F0 m (pc + 3) ls (.int x :: rest))) : W p l e R s m args below meth c H locs cells slots Q (F0 m pc ls (.ref a :: rest)) :=
  x_geti C hT hc hin hk hw hG hs hf hd (fun h => kk _ rfl h)
theorem x_gr (C : CX p K s m args meth c own b n r nm) (hT : TY K G H) {ci k N idx a t u : Nat} {Cn : String} {T : u_T} {fs : List FT} {bb : Int} (hc : vwCl[ci]? = some (Cn, T, N)) (hin : ∀ w ∈ u_ws Cn T N, w ∈ okW) (hk : k < N) (hw : Cond.fieldLink own idx (T k).1 (T k).2.1 (T k).2.2.1 ∈ okW)
    (hG : G a = some t) (hs : rgT[t]? = some (.inl (ci, fs))) (hf : fs[k]? = some (2, (u : Int), bb)) (hd : decode b pc = .ok (.getfield idx, 3))
    (kk : ∀ q : Nat, q = fR H a (K.1.2 ci k) → G q = some u → W p l e R s m args below meth c H locs cells slots Q (F0 m (pc + 3) ls (.ref q :: rest))) : W p l e R s m args below meth c H locs cells slots Q (F0 m pc ls (.ref a :: rest)) :=
  x_getr C hT hc hin hk hw hG hs hf hd (fun h => kk _ rfl h)
theorem x_gn (C : CX p K s m args meth c own b n r nm) (hT : TY K G H) {ci k N idx a t u : Nat} {Cn : String} {T : u_T} {fs : List FT} {bb : Int} (hc : vwCl[ci]? = some (Cn, T, N)) (hin : ∀ w ∈ u_ws Cn T N, w ∈ okW) (hk : k < N) (hw : Cond.fieldLink own idx (T k).1 (T k).2.1 (T k).2.2.1 ∈ okW)
    (hG : G a = some t) (hs : rgT[t]? = some (.inl (ci, fs))) (hf : fs[k]? = some (3, (u : Int), bb)) (hd : decode b pc = .ok (.getfield idx, 3))
    (k0 : fV H a (K.1.2 ci k) = .null → W p l e R s m args below meth c H locs cells slots Q (F0 m (pc + 3) ls (.null :: rest)))
    (k1 : ∀ q : Nat, q = fR H a (K.1.2 ci k) → fV H a (K.1.2 ci k) = .ref q → G q = some u → W p l e R s m args below meth c H locs cells slots Q (F0 m (pc + 3) ls (.ref q :: rest))) : W p l e R s m args below meth c H locs cells slots Q (F0 m pc ls (.ref a :: rest)) :=
  x_getn C hT hc hin hk hw hG hs hf hd k0 (fun h1 h2 => k1 _ rfl h1 h2)
theorem x_ai (C : CX p K s m args meth c own b n r nm) (hT : TY K G H) {a t N : Nat} {lo hi : Int} {j : Int32} (hG : G a = some t) (hs : rgT[t]? = some (.inr (0, N, (0, lo, hi)))) (hj : 0 ≤ j.toInt ∧ j.toInt < N) (hd : decode b pc = .ok (.iaload, 1))
    (kk : ∀ x : Int32, x = fI H a j.toNatClampNeg → lo ≤ x.toInt ∧ x.toInt ≤ hi → W p l e R s m args below meth c H locs cells slots Q (F0 m (pc + 1) ls (.int x :: rest))) : W p l e R s m args below meth c H locs cells slots Q (F0 m pc ls (.int j :: .ref a :: rest)) :=
  x_iald C hT hG hs hj.1 hj.2 hd (fun h => kk _ rfl h)
theorem x_ar (C : CX p K s m args meth c own b n r nm) (hT : TY K G H) {a t ti N u : Nat} {bb : Int} {j : Int32} {ty : FieldType} (ht : (tyL K.2.1)[ti]? = some (K.2.1 ti, ty)) (hty : ty.isReference = true) (hG : G a = some t) (hs : rgT[t]? = some (.inr (ti, N, (2, (u : Int), bb)))) (hj : 0 ≤ j.toInt ∧ j.toInt < N) (hd : decode b pc = .ok (.aaload, 1))
    (kk : ∀ q : Nat, q = fR H a j.toNatClampNeg → G q = some u → W p l e R s m args below meth c H locs cells slots Q (F0 m (pc + 1) ls (.ref q :: rest))) : W p l e R s m args below meth c H locs cells slots Q (F0 m pc ls (.int j :: .ref a :: rest)) :=
  x_aald C hT ht hty hG hs hj.1 hj.2 hd (fun h => kk _ rfl h)
/-- a call, when it has come back: H1 with what the contract says -/
theorem x_lt {K : KE} {G : Nat → Option Nat} {H : Heap} {e1 : List Nat} {H1 : Heap} (hT : TY K G H) (hk : ∀ q : Nat, q < H.size → ¬ AE G e1 H.size q → H1[q]? = H[q]?) {q t : Nat} (hq : G q = some t) (ht : t ∉ e1) : H1[q]? = H[q]? := hk q (hT.lt hq) (AE_not hq ht (hT.lt hq))
end X3
/-! longs -/
theorem j_rng (x : Int64) : -9223372036854775808 ≤ x.toInt ∧ x.toInt ≤ 9223372036854775807 := by
  have h1 := Int64.le_toInt x
  have h2 := Int64.toInt_lt x
  omega
end
section
theorem dX0_init_0 : decode cX0_init 0 = .ok (.aload_n 0, 1) := by decide +kernel
theorem dX0_init_1 : decode cX0_init 1 = .ok (.invokespecial 3, 3) := by decide +kernel
theorem dX0_init_4 : decode cX0_init 4 = .ok (.aload_n 0, 1) := by decide +kernel
theorem dX0_init_5 : decode cX0_init 5 = .ok (.bipush 16, 2) := by decide +kernel
theorem dX0_init_7 : decode cX0_init 7 = .ok (.newarray .int, 2) := by decide +kernel
theorem dX0_init_9 : decode cX0_init 9 = .ok (.putfield 9, 3) := by decide +kernel
theorem dX0_init_12 : decode cX0_init 12 = .ok (.aload_n 0, 1) := by decide +kernel
theorem dX0_init_13 : decode cX0_init 13 = .ok (.bipush 16, 2) := by decide +kernel
theorem dX0_init_15 : decode cX0_init 15 = .ok (.newarray .int, 2) := by decide +kernel
theorem dX0_init_17 : decode cX0_init 17 = .ok (.putfield 15, 3) := by decide +kernel
theorem dX0_init_20 : decode cX0_init 20 = .ok (.aload_n 0, 1) := by decide +kernel
theorem dX0_init_21 : decode cX0_init 21 = .ok (.bipush 16, 2) := by decide +kernel
theorem dX0_init_23 : decode cX0_init 23 = .ok (.newarray .int, 2) := by decide +kernel
theorem dX0_init_25 : decode cX0_init 25 = .ok (.putfield 18, 3) := by decide +kernel
theorem dX0_init_28 : decode cX0_init 28 = .ok (.aload_n 0, 1) := by decide +kernel
theorem dX0_init_29 : decode cX0_init 29 = .ok (.bipush 16, 2) := by decide +kernel
theorem dX0_init_31 : decode cX0_init 31 = .ok (.newarray .int, 2) := by decide +kernel
theorem dX0_init_33 : decode cX0_init 33 = .ok (.putfield 21, 3) := by decide +kernel
theorem dX0_init_36 : decode cX0_init 36 = .ok (.aload_n 0, 1) := by decide +kernel
theorem dX0_init_37 : decode cX0_init 37 = .ok (.iconst 3, 1) := by decide +kernel
theorem dX0_init_38 : decode cX0_init 38 = .ok (.newarray .int, 2) := by decide +kernel
theorem dX0_init_40 : decode cX0_init 40 = .ok (.putfield 24, 3) := by decide +kernel
theorem dX0_init_43 : decode cX0_init 43 = .ok (.aload_n 0, 1) := by decide +kernel
theorem dX0_init_44 : decode cX0_init 44 = .ok (.sipush 200, 3) := by decide +kernel
theorem dX0_init_47 : decode cX0_init 47 = .ok (.newarray .int, 2) := by decide +kernel
theorem dX0_init_49 : decode cX0_init 49 = .ok (.putfield 27, 3) := by decide +kernel
theorem dX0_init_52 : decode cX0_init 52 = .ok (.aload_n 0, 1) := by decide +kernel
theorem dX0_init_53 : decode cX0_init 53 = .ok (.sipush 200, 3) := by decide +kernel
theorem dX0_init_56 : decode cX0_init 56 = .ok (.newarray .int, 2) := by decide +kernel
theorem dX0_init_58 : decode cX0_init 58 = .ok (.putfield 30, 3) := by decide +kernel
theorem dX0_init_61 : decode cX0_init 61 = .ok (.aload_n 0, 1) := by decide +kernel
theorem dX0_init_62 : decode cX0_init 62 = .ok (.bipush 12, 2) := by decide +kernel
theorem dX0_init_64 : decode cX0_init 64 = .ok (.newarray .int, 2) := by decide +kernel
theorem dX0_init_66 : decode cX0_init 66 = .ok (.putfield 33, 3) := by decide +kernel
theorem dX0_init_69 : decode cX0_init 69 = .ok (.aload_n 0, 1) := by decide +kernel
theorem dX0_init_70 : decode cX0_init 70 = .ok (.bipush 12, 2) := by decide +kernel
theorem dX0_init_72 : decode cX0_init 72 = .ok (.newarray .int, 2) := by decide +kernel
theorem dX0_init_74 : decode cX0_init 74 = .ok (.putfield 36, 3) := by decide +kernel
theorem dX0_init_77 : decode cX0_init 77 = .ok (.aload_n 0, 1) := by decide +kernel
theorem dX0_init_78 : decode cX0_init 78 = .ok (.bipush 12, 2) := by decide +kernel
theorem dX0_init_80 : decode cX0_init 80 = .ok (.bipush 16, 2) := by decide +kernel
theorem dX0_init_82 : decode cX0_init 82 = .ok (.multianewarray 39 2, 4) := by decide +kernel
theorem dX0_init_86 : decode cX0_init 86 = .ok (.putfield 41, 3) := by decide +kernel
theorem dX0_init_89 : decode cX0_init 89 = .ok (.aload_n 0, 1) := by decide +kernel
theorem dX0_init_90 : decode cX0_init 90 = .ok (.bipush 12, 2) := by decide +kernel
theorem dX0_init_92 : decode cX0_init 92 = .ok (.bipush 16, 2) := by decide +kernel
theorem dX0_init_94 : decode cX0_init 94 = .ok (.multianewarray 39 2, 4) := by decide +kernel
theorem dX0_init_98 : decode cX0_init 98 = .ok (.putfield 44, 3) := by decide +kernel
theorem dX0_init_101 : decode cX0_init 101 = .ok (.aload_n 0, 1) := by decide +kernel
theorem dX0_init_102 : decode cX0_init 102 = .ok (.iconst 2, 1) := by decide +kernel
theorem dX0_init_103 : decode cX0_init 103 = .ok (.newarray .int, 2) := by decide +kernel
theorem dX0_init_105 : decode cX0_init 105 = .ok (.putfield 47, 3) := by decide +kernel
theorem dX0_init_108 : decode cX0_init 108 = .ok (.return_, 1) := by decide +kernel
theorem dX0_begin_0 : decode cX0_begin 0 = .ok (.aload_n 0, 1) := by decide +kernel
theorem dX0_begin_1 : decode cX0_begin 1 = .ok (.iload_n 1, 1) := by decide +kernel
theorem dX0_begin_2 : decode cX0_begin 2 = .ok (.putfield 50, 3) := by decide +kernel
theorem dX0_begin_5 : decode cX0_begin 5 = .ok (.aload_n 0, 1) := by decide +kernel
theorem dX0_begin_6 : decode cX0_begin 6 = .ok (.getfield 9, 3) := by decide +kernel
theorem dX0_begin_9 : decode cX0_begin 9 = .ok (.bipush 20, 2) := by decide +kernel
theorem dX0_begin_11 : decode cX0_begin 11 = .ok (.invokestatic 54, 3) := by decide +kernel
theorem dX0_begin_14 : decode cX0_begin 14 = .ok (.aload_n 0, 1) := by decide +kernel
theorem dX0_begin_15 : decode cX0_begin 15 = .ok (.getfield 15, 3) := by decide +kernel
theorem dX0_begin_18 : decode cX0_begin 18 = .ok (.iconst 5, 1) := by decide +kernel
theorem dX0_begin_19 : decode cX0_begin 19 = .ok (.invokestatic 54, 3) := by decide +kernel
theorem dX0_begin_22 : decode cX0_begin 22 = .ok (.aload_n 0, 1) := by decide +kernel
theorem dX0_begin_23 : decode cX0_begin 23 = .ok (.getfield 18, 3) := by decide +kernel
theorem dX0_begin_26 : decode cX0_begin 26 = .ok (.iconst 5, 1) := by decide +kernel
theorem dX0_begin_27 : decode cX0_begin 27 = .ok (.invokestatic 54, 3) := by decide +kernel
theorem dX0_begin_30 : decode cX0_begin 30 = .ok (.aload_n 0, 1) := by decide +kernel
theorem dX0_begin_31 : decode cX0_begin 31 = .ok (.getfield 21, 3) := by decide +kernel
theorem dX0_begin_34 : decode cX0_begin 34 = .ok (.iconst 0, 1) := by decide +kernel
theorem dX0_begin_35 : decode cX0_begin 35 = .ok (.invokestatic 54, 3) := by decide +kernel
theorem dX0_begin_38 : decode cX0_begin 38 = .ok (.aload_n 0, 1) := by decide +kernel
theorem dX0_begin_39 : decode cX0_begin 39 = .ok (.getfield 24, 3) := by decide +kernel
theorem dX0_begin_42 : decode cX0_begin 42 = .ok (.iconst 0, 1) := by decide +kernel
theorem dX0_begin_43 : decode cX0_begin 43 = .ok (.invokestatic 54, 3) := by decide +kernel
theorem dX0_begin_46 : decode cX0_begin 46 = .ok (.aload_n 0, 1) := by decide +kernel
theorem dX0_begin_47 : decode cX0_begin 47 = .ok (.getfield 47, 3) := by decide +kernel
theorem dX0_begin_50 : decode cX0_begin 50 = .ok (.sipush 500, 3) := by decide +kernel
theorem dX0_begin_53 : decode cX0_begin 53 = .ok (.invokestatic 54, 3) := by decide +kernel
theorem dX0_begin_56 : decode cX0_begin 56 = .ok (.aload_n 0, 1) := by decide +kernel
theorem dX0_begin_57 : decode cX0_begin 57 = .ok (.iconst 0, 1) := by decide +kernel
theorem dX0_begin_58 : decode cX0_begin 58 = .ok (.putfield 60, 3) := by decide +kernel
theorem dX0_begin_61 : decode cX0_begin 61 = .ok (.aload_n 0, 1) := by decide +kernel
theorem dX0_begin_62 : decode cX0_begin 62 = .ok (.iconst 0, 1) := by decide +kernel
theorem dX0_begin_63 : decode cX0_begin 63 = .ok (.putfield 63, 3) := by decide +kernel
theorem dX0_begin_66 : decode cX0_begin 66 = .ok (.aload_n 0, 1) := by decide +kernel
theorem dX0_begin_67 : decode cX0_begin 67 = .ok (.iconst 0, 1) := by decide +kernel
theorem dX0_begin_68 : decode cX0_begin 68 = .ok (.putfield 66, 3) := by decide +kernel
theorem dX0_begin_71 : decode cX0_begin 71 = .ok (.aload_n 0, 1) := by decide +kernel
theorem dX0_begin_72 : decode cX0_begin 72 = .ok (.iconst (-1), 1) := by decide +kernel
theorem dX0_begin_73 : decode cX0_begin 73 = .ok (.putfield 69, 3) := by decide +kernel
theorem dX0_begin_76 : decode cX0_begin 76 = .ok (.aload_n 0, 1) := by decide +kernel
theorem dX0_begin_77 : decode cX0_begin 77 = .ok (.iconst (-1), 1) := by decide +kernel
theorem dX0_begin_78 : decode cX0_begin 78 = .ok (.putfield 72, 3) := by decide +kernel
theorem dX0_begin_81 : decode cX0_begin 81 = .ok (.return_, 1) := by decide +kernel
theorem dX1_init_0 : decode cX1_init 0 = .ok (.aload_n 0, 1) := by decide +kernel
theorem dX1_init_1 : decode cX1_init 1 = .ok (.invokespecial 3, 3) := by decide +kernel
theorem dX1_init_4 : decode cX1_init 4 = .ok (.aload_n 0, 1) := by decide +kernel
theorem dX1_init_5 : decode cX1_init 5 = .ok (.sipush 240, 3) := by decide +kernel
theorem dX1_init_8 : decode cX1_init 8 = .ok (.newarray .int, 2) := by decide +kernel
theorem dX1_init_10 : decode cX1_init 10 = .ok (.putfield 11, 3) := by decide +kernel
theorem dX1_init_13 : decode cX1_init 13 = .ok (.aload_n 0, 1) := by decide +kernel
theorem dX1_init_14 : decode cX1_init 14 = .ok (.sipush 240, 3) := by decide +kernel
theorem dX1_init_17 : decode cX1_init 17 = .ok (.newarray .int, 2) := by decide +kernel
theorem dX1_init_19 : decode cX1_init 19 = .ok (.putfield 15, 3) := by decide +kernel
theorem dX1_init_22 : decode cX1_init 22 = .ok (.aload_n 0, 1) := by decide +kernel
theorem dX1_init_23 : decode cX1_init 23 = .ok (.iconst 5, 1) := by decide +kernel
theorem dX1_init_24 : decode cX1_init 24 = .ok (.newarray .int, 2) := by decide +kernel
theorem dX1_init_26 : decode cX1_init 26 = .ok (.putfield 18, 3) := by decide +kernel
theorem dX1_init_29 : decode cX1_init 29 = .ok (.aload_n 0, 1) := by decide +kernel
theorem dX1_init_30 : decode cX1_init 30 = .ok (.sipush 1024, 3) := by decide +kernel
theorem dX1_init_33 : decode cX1_init 33 = .ok (.newarray .int, 2) := by decide +kernel
theorem dX1_init_35 : decode cX1_init 35 = .ok (.putfield 21, 3) := by decide +kernel
theorem dX1_init_38 : decode cX1_init 38 = .ok (.aload_n 0, 1) := by decide +kernel
theorem dX1_init_39 : decode cX1_init 39 = .ok (.bipush 16, 2) := by decide +kernel
theorem dX1_init_41 : decode cX1_init 41 = .ok (.newarray .int, 2) := by decide +kernel
theorem dX1_init_43 : decode cX1_init 43 = .ok (.putfield 24, 3) := by decide +kernel
theorem dX1_init_46 : decode cX1_init 46 = .ok (.aload_n 0, 1) := by decide +kernel
theorem dX1_init_47 : decode cX1_init 47 = .ok (.new 27, 3) := by decide +kernel
theorem dX1_init_50 : decode cX1_init 50 = .ok (.dup, 1) := by decide +kernel
theorem dX1_init_51 : decode cX1_init 51 = .ok (.invokespecial 29, 3) := by decide +kernel
theorem dX1_init_54 : decode cX1_init 54 = .ok (.putfield 30, 3) := by decide +kernel
theorem dX1_init_57 : decode cX1_init 57 = .ok (.return_, 1) := by decide +kernel
theorem dX2_init_0 : decode cX2_init 0 = .ok (.aload_n 0, 1) := by decide +kernel
theorem dX2_init_1 : decode cX2_init 1 = .ok (.invokespecial 1, 3) := by decide +kernel
theorem dX2_init_4 : decode cX2_init 4 = .ok (.aload_n 0, 1) := by decide +kernel
theorem dX2_init_5 : decode cX2_init 5 = .ok (.sipush 2048, 3) := by decide +kernel
theorem dX2_init_8 : decode cX2_init 8 = .ok (.newarray .int, 2) := by decide +kernel
theorem dX2_init_10 : decode cX2_init 10 = .ok (.putfield 9, 3) := by decide +kernel
theorem dX2_init_13 : decode cX2_init 13 = .ok (.return_, 1) := by decide +kernel
theorem dX3_init_0 : decode cX3_init 0 = .ok (.aload_n 0, 1) := by decide +kernel
theorem dX3_init_1 : decode cX3_init 1 = .ok (.invokespecial 5, 3) := by decide +kernel
theorem dX3_init_4 : decode cX3_init 4 = .ok (.aload_n 0, 1) := by decide +kernel
theorem dX3_init_5 : decode cX3_init 5 = .ok (.iconst 5, 1) := by decide +kernel
theorem dX3_init_6 : decode cX3_init 6 = .ok (.newarray .int, 2) := by decide +kernel
theorem dX3_init_8 : decode cX3_init 8 = .ok (.putfield 11, 3) := by decide +kernel
theorem dX3_init_11 : decode cX3_init 11 = .ok (.aload_n 0, 1) := by decide +kernel
theorem dX3_init_12 : decode cX3_init 12 = .ok (.sipush 144, 3) := by decide +kernel
theorem dX3_init_15 : decode cX3_init 15 = .ok (.newarray .int, 2) := by decide +kernel
theorem dX3_init_17 : decode cX3_init 17 = .ok (.putfield 15, 3) := by decide +kernel
theorem dX3_init_20 : decode cX3_init 20 = .ok (.aload_n 0, 1) := by decide +kernel
theorem dX3_init_21 : decode cX3_init 21 = .ok (.sipush 144, 3) := by decide +kernel
theorem dX3_init_24 : decode cX3_init 24 = .ok (.newarray .int, 2) := by decide +kernel
theorem dX3_init_26 : decode cX3_init 26 = .ok (.putfield 18, 3) := by decide +kernel
theorem dX3_init_29 : decode cX3_init 29 = .ok (.aload_n 0, 1) := by decide +kernel
theorem dX3_init_30 : decode cX3_init 30 = .ok (.iconst 3, 1) := by decide +kernel
theorem dX3_init_31 : decode cX3_init 31 = .ok (.newarray .int, 2) := by decide +kernel
theorem dX3_init_33 : decode cX3_init 33 = .ok (.putfield 21, 3) := by decide +kernel
theorem dX3_init_36 : decode cX3_init 36 = .ok (.aload_n 0, 1) := by decide +kernel
theorem dX3_init_37 : decode cX3_init 37 = .ok (.iconst 3, 1) := by decide +kernel
theorem dX3_init_38 : decode cX3_init 38 = .ok (.newarray .int, 2) := by decide +kernel
theorem dX3_init_40 : decode cX3_init 40 = .ok (.putfield 24, 3) := by decide +kernel
theorem dX3_init_43 : decode cX3_init 43 = .ok (.aload_n 0, 1) := by decide +kernel
theorem dX3_init_44 : decode cX3_init 44 = .ok (.iconst 3, 1) := by decide +kernel
theorem dX3_init_45 : decode cX3_init 45 = .ok (.newarray .int, 2) := by decide +kernel
theorem dX3_init_47 : decode cX3_init 47 = .ok (.putfield 27, 3) := by decide +kernel
theorem dX3_init_50 : decode cX3_init 50 = .ok (.aload_n 0, 1) := by decide +kernel
theorem dX3_init_51 : decode cX3_init 51 = .ok (.bipush 8, 2) := by decide +kernel
theorem dX3_init_53 : decode cX3_init 53 = .ok (.newarray .int, 2) := by decide +kernel
theorem dX3_init_55 : decode cX3_init 55 = .ok (.putfield 30, 3) := by decide +kernel
theorem dX3_init_58 : decode cX3_init 58 = .ok (.aload_n 0, 1) := by decide +kernel
theorem dX3_init_59 : decode cX3_init 59 = .ok (.bipush 8, 2) := by decide +kernel
theorem dX3_init_61 : decode cX3_init 61 = .ok (.newarray .int, 2) := by decide +kernel
theorem dX3_init_63 : decode cX3_init 63 = .ok (.putfield 33, 3) := by decide +kernel
theorem dX3_init_66 : decode cX3_init 66 = .ok (.aload_n 0, 1) := by decide +kernel
theorem dX3_init_67 : decode cX3_init 67 = .ok (.new 36, 3) := by decide +kernel
theorem dX3_init_70 : decode cX3_init 70 = .ok (.dup, 1) := by decide +kernel
theorem dX3_init_71 : decode cX3_init 71 = .ok (.invokespecial 38, 3) := by decide +kernel
theorem dX3_init_74 : decode cX3_init 74 = .ok (.putfield 39, 3) := by decide +kernel
theorem dX3_init_77 : decode cX3_init 77 = .ok (.return_, 1) := by decide +kernel
theorem dX4_init_0 : decode cX4_init 0 = .ok (.aload_n 0, 1) := by decide +kernel
theorem dX4_init_1 : decode cX4_init 1 = .ok (.invokespecial 3, 3) := by decide +kernel
theorem dX4_init_4 : decode cX4_init 4 = .ok (.aload_n 0, 1) := by decide +kernel
theorem dX4_init_5 : decode cX4_init 5 = .ok (.new 9, 3) := by decide +kernel
theorem dX4_init_8 : decode cX4_init 8 = .ok (.dup, 1) := by decide +kernel
theorem dX4_init_9 : decode cX4_init 9 = .ok (.invokespecial 11, 3) := by decide +kernel
theorem dX4_init_12 : decode cX4_init 12 = .ok (.putfield 12, 3) := by decide +kernel
theorem dX4_init_15 : decode cX4_init 15 = .ok (.aload_n 0, 1) := by decide +kernel
theorem dX4_init_16 : decode cX4_init 16 = .ok (.sipush 501, 3) := by decide +kernel
theorem dX4_init_19 : decode cX4_init 19 = .ok (.newarray .int, 2) := by decide +kernel
theorem dX4_init_21 : decode cX4_init 21 = .ok (.putfield 18, 3) := by decide +kernel
theorem dX4_init_24 : decode cX4_init 24 = .ok (.aload_n 0, 1) := by decide +kernel
theorem dX4_init_25 : decode cX4_init 25 = .ok (.sipush 501, 3) := by decide +kernel
theorem dX4_init_28 : decode cX4_init 28 = .ok (.newarray .int, 2) := by decide +kernel
theorem dX4_init_30 : decode cX4_init 30 = .ok (.putfield 22, 3) := by decide +kernel
theorem dX4_init_33 : decode cX4_init 33 = .ok (.aload_n 0, 1) := by decide +kernel
theorem dX4_init_34 : decode cX4_init 34 = .ok (.sipush 501, 3) := by decide +kernel
theorem dX4_init_37 : decode cX4_init 37 = .ok (.newarray .int, 2) := by decide +kernel
theorem dX4_init_39 : decode cX4_init 39 = .ok (.putfield 25, 3) := by decide +kernel
theorem dX4_init_42 : decode cX4_init 42 = .ok (.return_, 1) := by decide +kernel
theorem dX4_start_0 : decode cX4_start 0 = .ok (.aload_n 0, 1) := by decide +kernel
theorem dX4_start_1 : decode cX4_start 1 = .ok (.iload_n 3, 1) := by decide +kernel
theorem dX4_start_2 : decode cX4_start 2 = .ok (.putfield 28, 3) := by decide +kernel
theorem dX4_start_5 : decode cX4_start 5 = .ok (.aload_n 0, 1) := by decide +kernel
theorem dX4_start_6 : decode cX4_start 6 = .ok (.iconst 0, 1) := by decide +kernel
theorem dX4_start_7 : decode cX4_start 7 = .ok (.putfield 32, 3) := by decide +kernel
theorem dX4_start_10 : decode cX4_start 10 = .ok (.aload_n 0, 1) := by decide +kernel
theorem dX4_start_11 : decode cX4_start 11 = .ok (.iconst (-1), 1) := by decide +kernel
theorem dX4_start_12 : decode cX4_start 12 = .ok (.putfield 36, 3) := by decide +kernel
theorem dX4_start_15 : decode cX4_start 15 = .ok (.aload_n 0, 1) := by decide +kernel
theorem dX4_start_16 : decode cX4_start 16 = .ok (.getfield 12, 3) := by decide +kernel
theorem dX4_start_19 : decode cX4_start 19 = .ok (.invokevirtual 39, 3) := by decide +kernel
theorem dX4_start_22 : decode cX4_start 22 = .ok (.aload_n 0, 1) := by decide +kernel
theorem dX4_start_23 : decode cX4_start 23 = .ok (.iconst 0, 1) := by decide +kernel
theorem dX4_start_24 : decode cX4_start 24 = .ok (.putfield 42, 3) := by decide +kernel
theorem dX4_start_27 : decode cX4_start 27 = .ok (.aload_n 0, 1) := by decide +kernel
theorem dX4_start_28 : decode cX4_start 28 = .ok (.iconst 0, 1) := by decide +kernel
theorem dX4_start_29 : decode cX4_start 29 = .ok (.putfield 45, 3) := by decide +kernel
theorem dX4_start_32 : decode cX4_start 32 = .ok (.iconst 0, 1) := by decide +kernel
theorem dX4_start_33 : decode cX4_start 33 = .ok (.istore 4, 2) := by decide +kernel
theorem dX4_start_35 : decode cX4_start 35 = .ok (.iload 4, 2) := by decide +kernel
theorem dX4_start_37 : decode cX4_start 37 = .ok (.iload_n 2, 1) := by decide +kernel
theorem dX4_start_38 : decode cX4_start 38 = .ok (.if_icmp .ge 166, 3) := by decide +kernel
theorem dX4_start_41 : decode cX4_start 41 = .ok (.iload 4, 2) := by decide +kernel
theorem dX4_start_43 : decode cX4_start 43 = .ok (.istore 5, 2) := by decide +kernel
theorem dX4_start_45 : decode cX4_start 45 = .ok (.aload_n 1, 1) := by decide +kernel
theorem dX4_start_46 : decode cX4_start 46 = .ok (.iload 4, 2) := by decide +kernel
theorem dX4_start_48 : decode cX4_start 48 = .ok (.iaload, 1) := by decide +kernel
theorem dX4_start_49 : decode cX4_start 49 = .ok (.istore 6, 2) := by decide +kernel
theorem dX4_start_51 : decode cX4_start 51 = .ok (.iinc 4 1, 3) := by decide +kernel
theorem dX4_start_54 : decode cX4_start 54 = .ok (.iload 6, 2) := by decide +kernel
theorem dX4_start_56 : decode cX4_start 56 = .ok (.invokestatic 48, 3) := by decide +kernel
theorem dX4_start_59 : decode cX4_start 59 = .ok (.ifCond .eq 43, 3) := by decide +kernel
theorem dX4_start_62 : decode cX4_start 62 = .ok (.iload 4, 2) := by decide +kernel
theorem dX4_start_64 : decode cX4_start 64 = .ok (.iload_n 2, 1) := by decide +kernel
theorem dX4_start_65 : decode cX4_start 65 = .ok (.if_icmp .ge 19, 3) := by decide +kernel
theorem dX4_start_68 : decode cX4_start 68 = .ok (.aload_n 1, 1) := by decide +kernel
theorem dX4_start_69 : decode cX4_start 69 = .ok (.iload 4, 2) := by decide +kernel
theorem dX4_start_71 : decode cX4_start 71 = .ok (.iaload, 1) := by decide +kernel
theorem dX4_start_72 : decode cX4_start 72 = .ok (.invokestatic 48, 3) := by decide +kernel
theorem dX4_start_75 : decode cX4_start 75 = .ok (.ifCond .eq 9, 3) := by decide +kernel
theorem dX4_start_78 : decode cX4_start 78 = .ok (.iinc 4 1, 3) := by decide +kernel
theorem dX4_start_81 : decode cX4_start 81 = .ok (.goto (-19), 3) := by decide +kernel
theorem dX4_start_84 : decode cX4_start 84 = .ok (.aload_n 0, 1) := by decide +kernel
theorem dX4_start_85 : decode cX4_start 85 = .ok (.aload_n 1, 1) := by decide +kernel
theorem dX4_start_86 : decode cX4_start 86 = .ok (.iload 5, 2) := by decide +kernel
theorem dX4_start_88 : decode cX4_start 88 = .ok (.iload 4, 2) := by decide +kernel
theorem dX4_start_90 : decode cX4_start 90 = .ok (.invokestatic 52, 3) := by decide +kernel
theorem dX4_start_93 : decode cX4_start 93 = .ok (.iconst 0, 1) := by decide +kernel
theorem dX4_start_94 : decode cX4_start 94 = .ok (.iload 5, 2) := by decide +kernel
theorem dX4_start_96 : decode cX4_start 96 = .ok (.invokevirtual 56, 3) := by decide +kernel
theorem dX4_start_99 : decode cX4_start 99 = .ok (.goto 102, 3) := by decide +kernel
theorem dX4_start_102 : decode cX4_start 102 = .ok (.iload 6, 2) := by decide +kernel
theorem dX4_start_104 : decode cX4_start 104 = .ok (.invokestatic 60, 3) := by decide +kernel
theorem dX4_start_107 : decode cX4_start 107 = .ok (.ifCond .eq 58, 3) := by decide +kernel
theorem dX4_start_110 : decode cX4_start 110 = .ok (.iload 4, 2) := by decide +kernel
theorem dX4_start_112 : decode cX4_start 112 = .ok (.iload_n 2, 1) := by decide +kernel
theorem dX4_start_113 : decode cX4_start 113 = .ok (.if_icmp .ge 19, 3) := by decide +kernel
theorem dX4_start_116 : decode cX4_start 116 = .ok (.aload_n 1, 1) := by decide +kernel
theorem dX4_start_117 : decode cX4_start 117 = .ok (.iload 4, 2) := by decide +kernel
theorem dX4_start_119 : decode cX4_start 119 = .ok (.iaload, 1) := by decide +kernel
theorem dX4_start_120 : decode cX4_start 120 = .ok (.invokestatic 60, 3) := by decide +kernel
theorem dX4_start_123 : decode cX4_start 123 = .ok (.ifCond .eq 9, 3) := by decide +kernel
theorem dX4_start_126 : decode cX4_start 126 = .ok (.iinc 4 1, 3) := by decide +kernel
theorem dX4_start_129 : decode cX4_start 129 = .ok (.goto (-19), 3) := by decide +kernel
theorem dX4_start_132 : decode cX4_start 132 = .ok (.aload_n 0, 1) := by decide +kernel
theorem dX4_start_133 : decode cX4_start 133 = .ok (.iload 4, 2) := by decide +kernel
theorem dX4_start_135 : decode cX4_start 135 = .ok (.iload 5, 2) := by decide +kernel
theorem dX4_start_137 : decode cX4_start 137 = .ok (.isub, 1) := by decide +kernel
theorem dX4_start_138 : decode cX4_start 138 = .ok (.iconst 5, 1) := by decide +kernel
theorem dX4_start_139 : decode cX4_start 139 = .ok (.if_icmp .gt 8, 3) := by decide +kernel
theorem dX4_start_142 : decode cX4_start 142 = .ok (.bipush 24, 2) := by decide +kernel
theorem dX4_start_144 : decode cX4_start 144 = .ok (.goto 5, 3) := by decide +kernel
theorem dX4_start_147 : decode cX4_start 147 = .ok (.bipush 25, 2) := by decide +kernel
theorem dX4_start_149 : decode cX4_start 149 = .ok (.aload_n 1, 1) := by decide +kernel
theorem dX4_start_150 : decode cX4_start 150 = .ok (.iload 5, 2) := by decide +kernel
theorem dX4_start_152 : decode cX4_start 152 = .ok (.iload 4, 2) := by decide +kernel
theorem dX4_start_154 : decode cX4_start 154 = .ok (.invokestatic 63, 3) := by decide +kernel
theorem dX4_start_157 : decode cX4_start 157 = .ok (.iload 5, 2) := by decide +kernel
theorem dX4_start_159 : decode cX4_start 159 = .ok (.invokevirtual 56, 3) := by decide +kernel
theorem dX4_start_162 : decode cX4_start 162 = .ok (.goto 39, 3) := by decide +kernel
theorem dX4_start_165 : decode cX4_start 165 = .ok (.iload 6, 2) := by decide +kernel
theorem dX4_start_167 : decode cX4_start 167 = .ok (.bipush 32, 2) := by decide +kernel
theorem dX4_start_169 : decode cX4_start 169 = .ok (.if_icmp .eq 32, 3) := by decide +kernel
theorem dX4_start_172 : decode cX4_start 172 = .ok (.iload 6, 2) := by decide +kernel
theorem dX4_start_174 : decode cX4_start 174 = .ok (.bipush 10, 2) := by decide +kernel
theorem dX4_start_176 : decode cX4_start 176 = .ok (.if_icmp .eq 25, 3) := by decide +kernel
theorem dX4_start_179 : decode cX4_start 179 = .ok (.aload_n 0, 1) := by decide +kernel
theorem dX4_start_180 : decode cX4_start 180 = .ok (.iload 6, 2) := by decide +kernel
theorem dX4_start_182 : decode cX4_start 182 = .ok (.invokestatic 66, 3) := by decide +kernel
theorem dX4_start_185 : decode cX4_start 185 = .ok (.ifCond .eq 8, 3) := by decide +kernel
theorem dX4_start_188 : decode cX4_start 188 = .ok (.iload 6, 2) := by decide +kernel
theorem dX4_start_190 : decode cX4_start 190 = .ok (.goto 5, 3) := by decide +kernel
theorem dX4_start_193 : decode cX4_start 193 = .ok (.bipush 25, 2) := by decide +kernel
theorem dX4_start_195 : decode cX4_start 195 = .ok (.iconst 0, 1) := by decide +kernel
theorem dX4_start_196 : decode cX4_start 196 = .ok (.iload 5, 2) := by decide +kernel
theorem dX4_start_198 : decode cX4_start 198 = .ok (.invokevirtual 56, 3) := by decide +kernel
theorem dX4_start_201 : decode cX4_start 201 = .ok (.goto (-166), 3) := by decide +kernel
theorem dX4_start_204 : decode cX4_start 204 = .ok (.aload_n 0, 1) := by decide +kernel
theorem dX4_start_205 : decode cX4_start 205 = .ok (.bipush 26, 2) := by decide +kernel
theorem dX4_start_207 : decode cX4_start 207 = .ok (.iconst 0, 1) := by decide +kernel
theorem dX4_start_208 : decode cX4_start 208 = .ok (.iload_n 2, 1) := by decide +kernel
theorem dX4_start_209 : decode cX4_start 209 = .ok (.invokevirtual 56, 3) := by decide +kernel
theorem dX4_start_212 : decode cX4_start 212 = .ok (.return_, 1) := by decide +kernel
theorem dX4_addToken_0 : decode cX4_addToken 0 = .ok (.aload_n 0, 1) := by decide +kernel
theorem dX4_addToken_1 : decode cX4_addToken 1 = .ok (.getfield 45, 3) := by decide +kernel
theorem dX4_addToken_4 : decode cX4_addToken 4 = .ok (.sipush 500, 3) := by decide +kernel
theorem dX4_addToken_7 : decode cX4_addToken 7 = .ok (.if_icmp .gt 43, 3) := by decide +kernel
theorem dX4_addToken_10 : decode cX4_addToken 10 = .ok (.aload_n 0, 1) := by decide +kernel
theorem dX4_addToken_11 : decode cX4_addToken 11 = .ok (.getfield 18, 3) := by decide +kernel
theorem dX4_addToken_14 : decode cX4_addToken 14 = .ok (.aload_n 0, 1) := by decide +kernel
theorem dX4_addToken_15 : decode cX4_addToken 15 = .ok (.getfield 45, 3) := by decide +kernel
theorem dX4_addToken_18 : decode cX4_addToken 18 = .ok (.iload_n 1, 1) := by decide +kernel
theorem dX4_addToken_19 : decode cX4_addToken 19 = .ok (.iastore, 1) := by decide +kernel
theorem dX4_addToken_20 : decode cX4_addToken 20 = .ok (.aload_n 0, 1) := by decide +kernel
theorem dX4_addToken_21 : decode cX4_addToken 21 = .ok (.getfield 22, 3) := by decide +kernel
theorem dX4_addToken_24 : decode cX4_addToken 24 = .ok (.aload_n 0, 1) := by decide +kernel
theorem dX4_addToken_25 : decode cX4_addToken 25 = .ok (.getfield 45, 3) := by decide +kernel
theorem dX4_addToken_28 : decode cX4_addToken 28 = .ok (.iload_n 2, 1) := by decide +kernel
theorem dX4_addToken_29 : decode cX4_addToken 29 = .ok (.iastore, 1) := by decide +kernel
theorem dX4_addToken_30 : decode cX4_addToken 30 = .ok (.aload_n 0, 1) := by decide +kernel
theorem dX4_addToken_31 : decode cX4_addToken 31 = .ok (.getfield 25, 3) := by decide +kernel
theorem dX4_addToken_34 : decode cX4_addToken 34 = .ok (.aload_n 0, 1) := by decide +kernel
theorem dX4_addToken_35 : decode cX4_addToken 35 = .ok (.getfield 45, 3) := by decide +kernel
theorem dX4_addToken_38 : decode cX4_addToken 38 = .ok (.iload_n 3, 1) := by decide +kernel
theorem dX4_addToken_39 : decode cX4_addToken 39 = .ok (.iastore, 1) := by decide +kernel
theorem dX4_addToken_40 : decode cX4_addToken 40 = .ok (.aload_n 0, 1) := by decide +kernel
theorem dX4_addToken_41 : decode cX4_addToken 41 = .ok (.dup, 1) := by decide +kernel
theorem dX4_addToken_42 : decode cX4_addToken 42 = .ok (.getfield 45, 3) := by decide +kernel
theorem dX4_addToken_45 : decode cX4_addToken 45 = .ok (.iconst 1, 1) := by decide +kernel
theorem dX4_addToken_46 : decode cX4_addToken 46 = .ok (.iadd, 1) := by decide +kernel
theorem dX4_addToken_47 : decode cX4_addToken 47 = .ok (.putfield 45, 3) := by decide +kernel
theorem dX4_addToken_50 : decode cX4_addToken 50 = .ok (.return_, 1) := by decide +kernel
theorem dX4_goesOn_0 : decode cX4_goesOn 0 = .ok (.aload_n 0, 1) := by decide +kernel
theorem dX4_goesOn_1 : decode cX4_goesOn 1 = .ok (.getfield 32, 3) := by decide +kernel
theorem dX4_goesOn_4 : decode cX4_goesOn 4 = .ok (.ifCond .ne 21, 3) := by decide +kernel
theorem dX4_goesOn_7 : decode cX4_goesOn 7 = .ok (.aload_n 0, 1) := by decide +kernel
theorem dX4_goesOn_8 : decode cX4_goesOn 8 = .ok (.getfield 18, 3) := by decide +kernel
theorem dX4_goesOn_11 : decode cX4_goesOn 11 = .ok (.aload_n 0, 1) := by decide +kernel
theorem dX4_goesOn_12 : decode cX4_goesOn 12 = .ok (.getfield 42, 3) := by decide +kernel
theorem dX4_goesOn_15 : decode cX4_goesOn 15 = .ok (.iaload, 1) := by decide +kernel
theorem dX4_goesOn_16 : decode cX4_goesOn 16 = .ok (.bipush 26, 2) := by decide +kernel
theorem dX4_goesOn_18 : decode cX4_goesOn 18 = .ok (.if_icmp .eq 7, 3) := by decide +kernel
theorem dX4_goesOn_21 : decode cX4_goesOn 21 = .ok (.iconst 1, 1) := by decide +kernel
theorem dX4_goesOn_22 : decode cX4_goesOn 22 = .ok (.goto 4, 3) := by decide +kernel
theorem dX4_goesOn_25 : decode cX4_goesOn 25 = .ok (.iconst 0, 1) := by decide +kernel
theorem dX4_goesOn_26 : decode cX4_goesOn 26 = .ok (.ireturn, 1) := by decide +kernel
theorem dX5_init_0 : decode cX5_init 0 = .ok (.aload_n 0, 1) := by decide +kernel
theorem dX5_init_1 : decode cX5_init 1 = .ok (.invokespecial 3, 3) := by decide +kernel
theorem dX5_init_4 : decode cX5_init 4 = .ok (.aload_n 0, 1) := by decide +kernel
theorem dX5_init_5 : decode cX5_init 5 = .ok (.bipush 8, 2) := by decide +kernel
theorem dX5_init_7 : decode cX5_init 7 = .ok (.newarray .int, 2) := by decide +kernel
theorem dX5_init_9 : decode cX5_init 9 = .ok (.putfield 9, 3) := by decide +kernel
theorem dX5_init_12 : decode cX5_init 12 = .ok (.aload_n 0, 1) := by decide +kernel
theorem dX5_init_13 : decode cX5_init 13 = .ok (.bipush 8, 2) := by decide +kernel
theorem dX5_init_15 : decode cX5_init 15 = .ok (.newarray .int, 2) := by decide +kernel
theorem dX5_init_17 : decode cX5_init 17 = .ok (.putfield 15, 3) := by decide +kernel
theorem dX5_init_20 : decode cX5_init 20 = .ok (.aload_n 0, 1) := by decide +kernel
theorem dX5_init_21 : decode cX5_init 21 = .ok (.sipush 256, 3) := by decide +kernel
theorem dX5_init_24 : decode cX5_init 24 = .ok (.newarray .int, 2) := by decide +kernel
theorem dX5_init_26 : decode cX5_init 26 = .ok (.putfield 18, 3) := by decide +kernel
theorem dX5_init_29 : decode cX5_init 29 = .ok (.return_, 1) := by decide +kernel
theorem dX5_find_0 : decode cX5_find 0 = .ok (.aload_n 0, 1) := by decide +kernel
theorem dX5_find_1 : decode cX5_find 1 = .ok (.getfield 18, 3) := by decide +kernel
theorem dX5_find_4 : decode cX5_find 4 = .ok (.iconst 0, 1) := by decide +kernel
theorem dX5_find_5 : decode cX5_find 5 = .ok (.invokestatic 21, 3) := by decide +kernel
theorem dX5_find_8 : decode cX5_find 8 = .ok (.aload_n 0, 1) := by decide +kernel
theorem dX5_find_9 : decode cX5_find 9 = .ok (.iconst (-1), 1) := by decide +kernel
theorem dX5_find_10 : decode cX5_find 10 = .ok (.putfield 27, 3) := by decide +kernel
theorem dX5_find_13 : decode cX5_find 13 = .ok (.aload_n 0, 1) := by decide +kernel
theorem dX5_find_14 : decode cX5_find 14 = .ok (.iload_n 2, 1) := by decide +kernel
theorem dX5_find_15 : decode cX5_find 15 = .ok (.putfield 31, 3) := by decide +kernel
theorem dX5_find_18 : decode cX5_find 18 = .ok (.aload_n 0, 1) := by decide +kernel
theorem dX5_find_19 : decode cX5_find 19 = .ok (.aload_n 1, 1) := by decide +kernel
theorem dX5_find_20 : decode cX5_find 20 = .ok (.iconst 0, 1) := by decide +kernel
theorem dX5_find_21 : decode cX5_find 21 = .ok (.iconst 0, 1) := by decide +kernel
theorem dX5_find_22 : decode cX5_find 22 = .ok (.iconst 0, 1) := by decide +kernel
theorem dX5_find_23 : decode cX5_find 23 = .ok (.invokevirtual 34, 3) := by decide +kernel
theorem dX5_find_26 : decode cX5_find 26 = .ok (.aload_n 0, 1) := by decide +kernel
theorem dX5_find_27 : decode cX5_find 27 = .ok (.getfield 27, 3) := by decide +kernel
theorem dX5_find_30 : decode cX5_find 30 = .ok (.ireturn, 1) := by decide +kernel
theorem dX5_goOn_0 : decode cX5_goOn 0 = .ok (.iload_n 2, 1) := by decide +kernel
theorem dX5_goOn_1 : decode cX5_goOn 1 = .ok (.aload_n 1, 1) := by decide +kernel
theorem dX5_goOn_2 : decode cX5_goOn 2 = .ok (.getfield 38, 3) := by decide +kernel
theorem dX5_goOn_5 : decode cX5_goOn 5 = .ok (.if_icmp .ge 9, 3) := by decide +kernel
theorem dX5_goOn_8 : decode cX5_goOn 8 = .ok (.iload_n 2, 1) := by decide +kernel
theorem dX5_goOn_9 : decode cX5_goOn 9 = .ok (.bipush 8, 2) := by decide +kernel
theorem dX5_goOn_11 : decode cX5_goOn 11 = .ok (.if_icmp .lt 42, 3) := by decide +kernel
theorem dX5_goOn_14 : decode cX5_goOn 14 = .ok (.aload_n 0, 1) := by decide +kernel
theorem dX5_goOn_15 : decode cX5_goOn 15 = .ok (.getfield 27, 3) := by decide +kernel
theorem dX5_goOn_18 : decode cX5_goOn 18 = .ok (.iconst (-1), 1) := by decide +kernel
theorem dX5_goOn_19 : decode cX5_goOn 19 = .ok (.if_icmp .eq 12, 3) := by decide +kernel
theorem dX5_goOn_22 : decode cX5_goOn 22 = .ok (.iload 4, 2) := by decide +kernel
theorem dX5_goOn_24 : decode cX5_goOn 24 = .ok (.aload_n 0, 1) := by decide +kernel
theorem dX5_goOn_25 : decode cX5_goOn 25 = .ok (.getfield 27, 3) := by decide +kernel
theorem dX5_goOn_28 : decode cX5_goOn 28 = .ok (.if_icmp .ge 24, 3) := by decide +kernel
theorem dX5_goOn_31 : decode cX5_goOn 31 = .ok (.aload_n 0, 1) := by decide +kernel
theorem dX5_goOn_32 : decode cX5_goOn 32 = .ok (.iload 4, 2) := by decide +kernel
theorem dX5_goOn_34 : decode cX5_goOn 34 = .ok (.putfield 27, 3) := by decide +kernel
theorem dX5_goOn_37 : decode cX5_goOn 37 = .ok (.aload_n 0, 1) := by decide +kernel
theorem dX5_goOn_38 : decode cX5_goOn 38 = .ok (.getfield 15, 3) := by decide +kernel
theorem dX5_goOn_41 : decode cX5_goOn 41 = .ok (.iconst 0, 1) := by decide +kernel
theorem dX5_goOn_42 : decode cX5_goOn 42 = .ok (.aload_n 0, 1) := by decide +kernel
theorem dX5_goOn_43 : decode cX5_goOn 43 = .ok (.getfield 9, 3) := by decide +kernel
theorem dX5_goOn_46 : decode cX5_goOn 46 = .ok (.iconst 0, 1) := by decide +kernel
theorem dX5_goOn_47 : decode cX5_goOn 47 = .ok (.bipush 8, 2) := by decide +kernel
theorem dX5_goOn_49 : decode cX5_goOn 49 = .ok (.invokestatic 43, 3) := by decide +kernel
theorem dX5_goOn_52 : decode cX5_goOn 52 = .ok (.return_, 1) := by decide +kernel
theorem dX5_goOn_53 : decode cX5_goOn 53 = .ok (.iconst 0, 1) := by decide +kernel
theorem dX5_goOn_54 : decode cX5_goOn 54 = .ok (.istore 5, 2) := by decide +kernel
theorem dX5_goOn_56 : decode cX5_goOn 56 = .ok (.iload 5, 2) := by decide +kernel
theorem dX5_goOn_58 : decode cX5_goOn 58 = .ok (.aload_n 1, 1) := by decide +kernel
theorem dX5_goOn_59 : decode cX5_goOn 59 = .ok (.getfield 49, 3) := by decide +kernel
theorem dX5_goOn_62 : decode cX5_goOn 62 = .ok (.if_icmp .ge 96, 3) := by decide +kernel
theorem dX5_goOn_65 : decode cX5_goOn 65 = .ok (.aload_n 1, 1) := by decide +kernel
theorem dX5_goOn_66 : decode cX5_goOn 66 = .ok (.getfield 52, 3) := by decide +kernel
theorem dX5_goOn_69 : decode cX5_goOn 69 = .ok (.iload 5, 2) := by decide +kernel
theorem dX5_goOn_71 : decode cX5_goOn 71 = .ok (.iaload, 1) := by decide +kernel
theorem dX5_goOn_72 : decode cX5_goOn 72 = .ok (.aload_n 1, 1) := by decide +kernel
theorem dX5_goOn_73 : decode cX5_goOn 73 = .ok (.getfield 55, 3) := by decide +kernel
theorem dX5_goOn_76 : decode cX5_goOn 76 = .ok (.iload_n 2, 1) := by decide +kernel
theorem dX5_goOn_77 : decode cX5_goOn 77 = .ok (.iaload, 1) := by decide +kernel
theorem dX5_goOn_78 : decode cX5_goOn 78 = .ok (.isub, 1) := by decide +kernel
theorem dX5_goOn_79 : decode cX5_goOn 79 = .ok (.istore 6, 2) := by decide +kernel
theorem dX5_goOn_81 : decode cX5_goOn 81 = .ok (.iload_n 3, 1) := by decide +kernel
theorem dX5_goOn_82 : decode cX5_goOn 82 = .ok (.iconst 1, 1) := by decide +kernel
theorem dX5_goOn_83 : decode cX5_goOn 83 = .ok (.iload 5, 2) := by decide +kernel
theorem dX5_goOn_85 : decode cX5_goOn 85 = .ok (.ishl, 1) := by decide +kernel
theorem dX5_goOn_86 : decode cX5_goOn 86 = .ok (.ior, 1) := by decide +kernel
theorem dX5_goOn_87 : decode cX5_goOn 87 = .ok (.istore 7, 2) := by decide +kernel
theorem dX5_goOn_89 : decode cX5_goOn 89 = .ok (.iload 7, 2) := by decide +kernel
theorem dX5_goOn_91 : decode cX5_goOn 91 = .ok (.iload_n 3, 1) := by decide +kernel
theorem dX5_goOn_92 : decode cX5_goOn 92 = .ok (.if_icmp .eq 60, 3) := by decide +kernel
theorem dX5_goOn_95 : decode cX5_goOn 95 = .ok (.iload 6, 2) := by decide +kernel
theorem dX5_goOn_97 : decode cX5_goOn 97 = .ok (.ifCond .lt 55, 3) := by decide +kernel
theorem dX5_goOn_100 : decode cX5_goOn 100 = .ok (.aload_n 0, 1) := by decide +kernel
theorem dX5_goOn_101 : decode cX5_goOn 101 = .ok (.getfield 18, 3) := by decide +kernel
theorem dX5_goOn_104 : decode cX5_goOn 104 = .ok (.iload 7, 2) := by decide +kernel
theorem dX5_goOn_106 : decode cX5_goOn 106 = .ok (.iaload, 1) := by decide +kernel
theorem dX5_goOn_107 : decode cX5_goOn 107 = .ok (.ifCond .ne 45, 3) := by decide +kernel
theorem dX5_goOn_110 : decode cX5_goOn 110 = .ok (.aload_n 0, 1) := by decide +kernel
theorem dX5_goOn_111 : decode cX5_goOn 111 = .ok (.aload_n 1, 1) := by decide +kernel
theorem dX5_goOn_112 : decode cX5_goOn 112 = .ok (.iload_n 3, 1) := by decide +kernel
theorem dX5_goOn_113 : decode cX5_goOn 113 = .ok (.iload 5, 2) := by decide +kernel
theorem dX5_goOn_115 : decode cX5_goOn 115 = .ok (.invokevirtual 58, 3) := by decide +kernel
theorem dX5_goOn_118 : decode cX5_goOn 118 = .ok (.ifCond .eq 34, 3) := by decide +kernel
theorem dX5_goOn_121 : decode cX5_goOn 121 = .ok (.aload_n 0, 1) := by decide +kernel
theorem dX5_goOn_122 : decode cX5_goOn 122 = .ok (.getfield 18, 3) := by decide +kernel
theorem dX5_goOn_125 : decode cX5_goOn 125 = .ok (.iload 7, 2) := by decide +kernel
theorem dX5_goOn_127 : decode cX5_goOn 127 = .ok (.iconst 1, 1) := by decide +kernel
theorem dX5_goOn_128 : decode cX5_goOn 128 = .ok (.iastore, 1) := by decide +kernel
theorem dX5_goOn_129 : decode cX5_goOn 129 = .ok (.aload_n 0, 1) := by decide +kernel
theorem dX5_goOn_130 : decode cX5_goOn 130 = .ok (.getfield 15, 3) := by decide +kernel
theorem dX5_goOn_133 : decode cX5_goOn 133 = .ok (.iload_n 2, 1) := by decide +kernel
theorem dX5_goOn_134 : decode cX5_goOn 134 = .ok (.iload 5, 2) := by decide +kernel
theorem dX5_goOn_136 : decode cX5_goOn 136 = .ok (.iastore, 1) := by decide +kernel
theorem dX5_goOn_137 : decode cX5_goOn 137 = .ok (.aload_n 0, 1) := by decide +kernel
theorem dX5_goOn_138 : decode cX5_goOn 138 = .ok (.aload_n 1, 1) := by decide +kernel
theorem dX5_goOn_139 : decode cX5_goOn 139 = .ok (.iload_n 2, 1) := by decide +kernel
theorem dX5_goOn_140 : decode cX5_goOn 140 = .ok (.iconst 1, 1) := by decide +kernel
theorem dX5_goOn_141 : decode cX5_goOn 141 = .ok (.iadd, 1) := by decide +kernel
theorem dX5_goOn_142 : decode cX5_goOn 142 = .ok (.iload 7, 2) := by decide +kernel
theorem dX5_goOn_144 : decode cX5_goOn 144 = .ok (.iload 4, 2) := by decide +kernel
theorem dX5_goOn_146 : decode cX5_goOn 146 = .ok (.iload 6, 2) := by decide +kernel
theorem dX5_goOn_148 : decode cX5_goOn 148 = .ok (.iadd, 1) := by decide +kernel
theorem dX5_goOn_149 : decode cX5_goOn 149 = .ok (.invokevirtual 34, 3) := by decide +kernel
theorem dX5_goOn_152 : decode cX5_goOn 152 = .ok (.iinc 5 1, 3) := by decide +kernel
theorem dX5_goOn_155 : decode cX5_goOn 155 = .ok (.goto (-99), 3) := by decide +kernel
theorem dX5_goOn_158 : decode cX5_goOn 158 = .ok (.return_, 1) := by decide +kernel
theorem dX6_init_0 : decode cX6_init 0 = .ok (.aload_n 0, 1) := by decide +kernel
theorem dX6_init_1 : decode cX6_init 1 = .ok (.invokespecial 3, 3) := by decide +kernel
theorem dX6_init_4 : decode cX6_init 4 = .ok (.aload_n 0, 1) := by decide +kernel
theorem dX6_init_5 : decode cX6_init 5 = .ok (.bipush 24, 2) := by decide +kernel
theorem dX6_init_7 : decode cX6_init 7 = .ok (.newarray .int, 2) := by decide +kernel
theorem dX6_init_9 : decode cX6_init 9 = .ok (.putfield 9, 3) := by decide +kernel
theorem dX6_init_12 : decode cX6_init 12 = .ok (.aload_n 0, 1) := by decide +kernel
theorem dX6_init_13 : decode cX6_init 13 = .ok (.bipush 40, 2) := by decide +kernel
theorem dX6_init_15 : decode cX6_init 15 = .ok (.newarray .int, 2) := by decide +kernel
theorem dX6_init_17 : decode cX6_init 17 = .ok (.putfield 15, 3) := by decide +kernel
theorem dX6_init_20 : decode cX6_init 20 = .ok (.return_, 1) := by decide +kernel
theorem dX7_init_0 : decode cX7_init 0 = .ok (.aload_n 0, 1) := by decide +kernel
theorem dX7_init_1 : decode cX7_init 1 = .ok (.invokespecial 3, 3) := by decide +kernel
theorem dX7_init_4 : decode cX7_init 4 = .ok (.aload_n 0, 1) := by decide +kernel
theorem dX7_init_5 : decode cX7_init 5 = .ok (.bipush 16, 2) := by decide +kernel
theorem dX7_init_7 : decode cX7_init 7 = .ok (.newarray .int, 2) := by decide +kernel
theorem dX7_init_9 : decode cX7_init 9 = .ok (.putfield 9, 3) := by decide +kernel
theorem dX7_init_12 : decode cX7_init 12 = .ok (.aload_n 0, 1) := by decide +kernel
theorem dX7_init_13 : decode cX7_init 13 = .ok (.bipush 16, 2) := by decide +kernel
theorem dX7_init_15 : decode cX7_init 15 = .ok (.newarray .int, 2) := by decide +kernel
theorem dX7_init_17 : decode cX7_init 17 = .ok (.putfield 15, 3) := by decide +kernel
theorem dX7_init_20 : decode cX7_init 20 = .ok (.aload_n 0, 1) := by decide +kernel
theorem dX7_init_21 : decode cX7_init 21 = .ok (.bipush 16, 2) := by decide +kernel
theorem dX7_init_23 : decode cX7_init 23 = .ok (.newarray .int, 2) := by decide +kernel
theorem dX7_init_25 : decode cX7_init 25 = .ok (.putfield 18, 3) := by decide +kernel
theorem dX7_init_28 : decode cX7_init 28 = .ok (.aload_n 0, 1) := by decide +kernel
theorem dX7_init_29 : decode cX7_init 29 = .ok (.bipush 16, 2) := by decide +kernel
theorem dX7_init_31 : decode cX7_init 31 = .ok (.newarray .int, 2) := by decide +kernel
theorem dX7_init_33 : decode cX7_init 33 = .ok (.putfield 21, 3) := by decide +kernel
theorem dX7_init_36 : decode cX7_init 36 = .ok (.aload_n 0, 1) := by decide +kernel
theorem dX7_init_37 : decode cX7_init 37 = .ok (.bipush 16, 2) := by decide +kernel
theorem dX7_init_39 : decode cX7_init 39 = .ok (.newarray .int, 2) := by decide +kernel
theorem dX7_init_41 : decode cX7_init 41 = .ok (.putfield 24, 3) := by decide +kernel
theorem dX7_init_44 : decode cX7_init 44 = .ok (.aload_n 0, 1) := by decide +kernel
theorem dX7_init_45 : decode cX7_init 45 = .ok (.bipush 16, 2) := by decide +kernel
theorem dX7_init_47 : decode cX7_init 47 = .ok (.newarray .int, 2) := by decide +kernel
theorem dX7_init_49 : decode cX7_init 49 = .ok (.putfield 27, 3) := by decide +kernel
theorem dX7_init_52 : decode cX7_init 52 = .ok (.aload_n 0, 1) := by decide +kernel
theorem dX7_init_53 : decode cX7_init 53 = .ok (.bipush 16, 2) := by decide +kernel
theorem dX7_init_55 : decode cX7_init 55 = .ok (.newarray .int, 2) := by decide +kernel
theorem dX7_init_57 : decode cX7_init 57 = .ok (.putfield 30, 3) := by decide +kernel
theorem dX7_init_60 : decode cX7_init 60 = .ok (.aload_n 0, 1) := by decide +kernel
theorem dX7_init_61 : decode cX7_init 61 = .ok (.sipush 500, 3) := by decide +kernel
theorem dX7_init_64 : decode cX7_init 64 = .ok (.newarray .int, 2) := by decide +kernel
theorem dX7_init_66 : decode cX7_init 66 = .ok (.putfield 33, 3) := by decide +kernel
theorem dX7_init_69 : decode cX7_init 69 = .ok (.return_, 1) := by decide +kernel
theorem dX7_clear_0 : decode cX7_clear 0 = .ok (.aload_n 0, 1) := by decide +kernel
theorem dX7_clear_1 : decode cX7_clear 1 = .ok (.iconst 0, 1) := by decide +kernel
theorem dX7_clear_2 : decode cX7_clear 2 = .ok (.putfield 36, 3) := by decide +kernel
theorem dX7_clear_5 : decode cX7_clear 5 = .ok (.aload_n 0, 1) := by decide +kernel
theorem dX7_clear_6 : decode cX7_clear 6 = .ok (.iconst 0, 1) := by decide +kernel
theorem dX7_clear_7 : decode cX7_clear 7 = .ok (.putfield 40, 3) := by decide +kernel
theorem dX7_clear_10 : decode cX7_clear 10 = .ok (.return_, 1) := by decide +kernel
theorem dX7_copyFrom_0 : decode cX7_copyFrom 0 = .ok (.aload_n 0, 1) := by decide +kernel
theorem dX7_copyFrom_1 : decode cX7_copyFrom 1 = .ok (.aload_n 1, 1) := by decide +kernel
theorem dX7_copyFrom_2 : decode cX7_copyFrom 2 = .ok (.getfield 36, 3) := by decide +kernel
theorem dX7_copyFrom_5 : decode cX7_copyFrom 5 = .ok (.putfield 36, 3) := by decide +kernel
theorem dX7_copyFrom_8 : decode cX7_copyFrom 8 = .ok (.aload_n 1, 1) := by decide +kernel
theorem dX7_copyFrom_9 : decode cX7_copyFrom 9 = .ok (.getfield 9, 3) := by decide +kernel
theorem dX7_copyFrom_12 : decode cX7_copyFrom 12 = .ok (.iconst 0, 1) := by decide +kernel
theorem dX7_copyFrom_13 : decode cX7_copyFrom 13 = .ok (.aload_n 0, 1) := by decide +kernel
theorem dX7_copyFrom_14 : decode cX7_copyFrom 14 = .ok (.getfield 9, 3) := by decide +kernel
theorem dX7_copyFrom_17 : decode cX7_copyFrom 17 = .ok (.iconst 0, 1) := by decide +kernel
theorem dX7_copyFrom_18 : decode cX7_copyFrom 18 = .ok (.bipush 16, 2) := by decide +kernel
theorem dX7_copyFrom_20 : decode cX7_copyFrom 20 = .ok (.invokestatic 44, 3) := by decide +kernel
theorem dX7_copyFrom_23 : decode cX7_copyFrom 23 = .ok (.aload_n 1, 1) := by decide +kernel
theorem dX7_copyFrom_24 : decode cX7_copyFrom 24 = .ok (.getfield 15, 3) := by decide +kernel
theorem dX7_copyFrom_27 : decode cX7_copyFrom 27 = .ok (.iconst 0, 1) := by decide +kernel
theorem dX7_copyFrom_28 : decode cX7_copyFrom 28 = .ok (.aload_n 0, 1) := by decide +kernel
theorem dX7_copyFrom_29 : decode cX7_copyFrom 29 = .ok (.getfield 15, 3) := by decide +kernel
theorem dX7_copyFrom_32 : decode cX7_copyFrom 32 = .ok (.iconst 0, 1) := by decide +kernel
theorem dX7_copyFrom_33 : decode cX7_copyFrom 33 = .ok (.bipush 16, 2) := by decide +kernel
theorem dX7_copyFrom_35 : decode cX7_copyFrom 35 = .ok (.invokestatic 44, 3) := by decide +kernel
theorem dX7_copyFrom_38 : decode cX7_copyFrom 38 = .ok (.aload_n 1, 1) := by decide +kernel
theorem dX7_copyFrom_39 : decode cX7_copyFrom 39 = .ok (.getfield 18, 3) := by decide +kernel
theorem dX7_copyFrom_42 : decode cX7_copyFrom 42 = .ok (.iconst 0, 1) := by decide +kernel
theorem dX7_copyFrom_43 : decode cX7_copyFrom 43 = .ok (.aload_n 0, 1) := by decide +kernel
theorem dX7_copyFrom_44 : decode cX7_copyFrom 44 = .ok (.getfield 18, 3) := by decide +kernel
theorem dX7_copyFrom_47 : decode cX7_copyFrom 47 = .ok (.iconst 0, 1) := by decide +kernel
theorem dX7_copyFrom_48 : decode cX7_copyFrom 48 = .ok (.bipush 16, 2) := by decide +kernel
theorem dX7_copyFrom_50 : decode cX7_copyFrom 50 = .ok (.invokestatic 44, 3) := by decide +kernel
theorem dX7_copyFrom_53 : decode cX7_copyFrom 53 = .ok (.aload_n 1, 1) := by decide +kernel
theorem dX7_copyFrom_54 : decode cX7_copyFrom 54 = .ok (.getfield 21, 3) := by decide +kernel
theorem dX7_copyFrom_57 : decode cX7_copyFrom 57 = .ok (.iconst 0, 1) := by decide +kernel
theorem dX7_copyFrom_58 : decode cX7_copyFrom 58 = .ok (.aload_n 0, 1) := by decide +kernel
theorem dX7_copyFrom_59 : decode cX7_copyFrom 59 = .ok (.getfield 21, 3) := by decide +kernel
theorem dX7_copyFrom_62 : decode cX7_copyFrom 62 = .ok (.iconst 0, 1) := by decide +kernel
theorem dX7_copyFrom_63 : decode cX7_copyFrom 63 = .ok (.bipush 16, 2) := by decide +kernel
theorem dX7_copyFrom_65 : decode cX7_copyFrom 65 = .ok (.invokestatic 44, 3) := by decide +kernel
theorem dX7_copyFrom_68 : decode cX7_copyFrom 68 = .ok (.aload_n 1, 1) := by decide +kernel
theorem dX7_copyFrom_69 : decode cX7_copyFrom 69 = .ok (.getfield 24, 3) := by decide +kernel
theorem dX7_copyFrom_72 : decode cX7_copyFrom 72 = .ok (.iconst 0, 1) := by decide +kernel
theorem dX7_copyFrom_73 : decode cX7_copyFrom 73 = .ok (.aload_n 0, 1) := by decide +kernel
theorem dX7_copyFrom_74 : decode cX7_copyFrom 74 = .ok (.getfield 24, 3) := by decide +kernel
theorem dX7_copyFrom_77 : decode cX7_copyFrom 77 = .ok (.iconst 0, 1) := by decide +kernel
theorem dX7_copyFrom_78 : decode cX7_copyFrom 78 = .ok (.bipush 16, 2) := by decide +kernel
theorem dX7_copyFrom_80 : decode cX7_copyFrom 80 = .ok (.invokestatic 44, 3) := by decide +kernel
theorem dX7_copyFrom_83 : decode cX7_copyFrom 83 = .ok (.aload_n 1, 1) := by decide +kernel
theorem dX7_copyFrom_84 : decode cX7_copyFrom 84 = .ok (.getfield 27, 3) := by decide +kernel
theorem dX7_copyFrom_87 : decode cX7_copyFrom 87 = .ok (.iconst 0, 1) := by decide +kernel
theorem dX7_copyFrom_88 : decode cX7_copyFrom 88 = .ok (.aload_n 0, 1) := by decide +kernel
theorem dX7_copyFrom_89 : decode cX7_copyFrom 89 = .ok (.getfield 27, 3) := by decide +kernel
theorem dX7_copyFrom_92 : decode cX7_copyFrom 92 = .ok (.iconst 0, 1) := by decide +kernel
theorem dX7_copyFrom_93 : decode cX7_copyFrom 93 = .ok (.bipush 16, 2) := by decide +kernel
theorem dX7_copyFrom_95 : decode cX7_copyFrom 95 = .ok (.invokestatic 44, 3) := by decide +kernel
theorem dX7_copyFrom_98 : decode cX7_copyFrom 98 = .ok (.aload_n 1, 1) := by decide +kernel
theorem dX7_copyFrom_99 : decode cX7_copyFrom 99 = .ok (.getfield 30, 3) := by decide +kernel
theorem dX7_copyFrom_102 : decode cX7_copyFrom 102 = .ok (.iconst 0, 1) := by decide +kernel
theorem dX7_copyFrom_103 : decode cX7_copyFrom 103 = .ok (.aload_n 0, 1) := by decide +kernel
theorem dX7_copyFrom_104 : decode cX7_copyFrom 104 = .ok (.getfield 30, 3) := by decide +kernel
theorem dX7_copyFrom_107 : decode cX7_copyFrom 107 = .ok (.iconst 0, 1) := by decide +kernel
theorem dX7_copyFrom_108 : decode cX7_copyFrom 108 = .ok (.bipush 16, 2) := by decide +kernel
theorem dX7_copyFrom_110 : decode cX7_copyFrom 110 = .ok (.invokestatic 44, 3) := by decide +kernel
theorem dX7_copyFrom_113 : decode cX7_copyFrom 113 = .ok (.aload_n 1, 1) := by decide +kernel
theorem dX7_copyFrom_114 : decode cX7_copyFrom 114 = .ok (.getfield 33, 3) := by decide +kernel
theorem dX7_copyFrom_117 : decode cX7_copyFrom 117 = .ok (.iconst 0, 1) := by decide +kernel
theorem dX7_copyFrom_118 : decode cX7_copyFrom 118 = .ok (.aload_n 0, 1) := by decide +kernel
theorem dX7_copyFrom_119 : decode cX7_copyFrom 119 = .ok (.getfield 33, 3) := by decide +kernel
theorem dX7_copyFrom_122 : decode cX7_copyFrom 122 = .ok (.iconst 0, 1) := by decide +kernel
theorem dX7_copyFrom_123 : decode cX7_copyFrom 123 = .ok (.aload_n 1, 1) := by decide +kernel
theorem dX7_copyFrom_124 : decode cX7_copyFrom 124 = .ok (.getfield 40, 3) := by decide +kernel
theorem dX7_copyFrom_127 : decode cX7_copyFrom 127 = .ok (.invokestatic 44, 3) := by decide +kernel
theorem dX7_copyFrom_130 : decode cX7_copyFrom 130 = .ok (.aload_n 0, 1) := by decide +kernel
theorem dX7_copyFrom_131 : decode cX7_copyFrom 131 = .ok (.aload_n 1, 1) := by decide +kernel
theorem dX7_copyFrom_132 : decode cX7_copyFrom 132 = .ok (.getfield 40, 3) := by decide +kernel
theorem dX7_copyFrom_135 : decode cX7_copyFrom 135 = .ok (.putfield 40, 3) := by decide +kernel
theorem dX7_copyFrom_138 : decode cX7_copyFrom 138 = .ok (.return_, 1) := by decide +kernel
theorem dX8_init_0 : decode cX8_init 0 = .ok (.aload_n 0, 1) := by decide +kernel
theorem dX8_init_1 : decode cX8_init 1 = .ok (.invokespecial 3, 3) := by decide +kernel
theorem dX8_init_4 : decode cX8_init 4 = .ok (.aload_n 0, 1) := by decide +kernel
theorem dX8_init_5 : decode cX8_init 5 = .ok (.bipush 10, 2) := by decide +kernel
theorem dX8_init_7 : decode cX8_init 7 = .ok (.anewarray 9, 3) := by decide +kernel
theorem dX8_init_10 : decode cX8_init 10 = .ok (.putfield 11, 3) := by decide +kernel
theorem dX8_init_13 : decode cX8_init 13 = .ok (.aload_n 0, 1) := by decide +kernel
theorem dX8_init_14 : decode cX8_init 14 = .ok (.iconst 2, 1) := by decide +kernel
theorem dX8_init_15 : decode cX8_init 15 = .ok (.anewarray 17, 3) := by decide +kernel
theorem dX8_init_18 : decode cX8_init 18 = .ok (.putfield 19, 3) := by decide +kernel
theorem dX8_init_21 : decode cX8_init 21 = .ok (.aload_n 0, 1) := by decide +kernel
theorem dX8_init_22 : decode cX8_init 22 = .ok (.iconst 4, 1) := by decide +kernel
theorem dX8_init_23 : decode cX8_init 23 = .ok (.anewarray 17, 3) := by decide +kernel
theorem dX8_init_26 : decode cX8_init 26 = .ok (.putfield 23, 3) := by decide +kernel
theorem dX8_init_29 : decode cX8_init 29 = .ok (.aload_n 0, 1) := by decide +kernel
theorem dX8_init_30 : decode cX8_init 30 = .ok (.bipush 10, 2) := by decide +kernel
theorem dX8_init_32 : decode cX8_init 32 = .ok (.putfield 26, 3) := by decide +kernel
theorem dX8_init_35 : decode cX8_init 35 = .ok (.aload_n 0, 1) := by decide +kernel
theorem dX8_init_36 : decode cX8_init 36 = .ok (.iconst (-1), 1) := by decide +kernel
theorem dX8_init_37 : decode cX8_init 37 = .ok (.putfield 30, 3) := by decide +kernel
theorem dX8_init_40 : decode cX8_init 40 = .ok (.aload_n 0, 1) := by decide +kernel
theorem dX8_init_41 : decode cX8_init 41 = .ok (.bipush 20, 2) := by decide +kernel
theorem dX8_init_43 : decode cX8_init 43 = .ok (.newarray .int, 2) := by decide +kernel
theorem dX8_init_45 : decode cX8_init 45 = .ok (.putfield 33, 3) := by decide +kernel
theorem dX8_init_48 : decode cX8_init 48 = .ok (.aload_n 0, 1) := by decide +kernel
theorem dX8_init_49 : decode cX8_init 49 = .ok (.bipush 20, 2) := by decide +kernel
theorem dX8_init_51 : decode cX8_init 51 = .ok (.newarray .int, 2) := by decide +kernel
theorem dX8_init_53 : decode cX8_init 53 = .ok (.putfield 37, 3) := by decide +kernel
theorem dX8_init_56 : decode cX8_init 56 = .ok (.aload_n 0, 1) := by decide +kernel
theorem dX8_init_57 : decode cX8_init 57 = .ok (.bipush 8, 2) := by decide +kernel
theorem dX8_init_59 : decode cX8_init 59 = .ok (.newarray .int, 2) := by decide +kernel
theorem dX8_init_61 : decode cX8_init 61 = .ok (.putfield 40, 3) := by decide +kernel
theorem dX8_init_64 : decode cX8_init 64 = .ok (.aload_n 0, 1) := by decide +kernel
theorem dX8_init_65 : decode cX8_init 65 = .ok (.bipush 8, 2) := by decide +kernel
theorem dX8_init_67 : decode cX8_init 67 = .ok (.newarray .int, 2) := by decide +kernel
theorem dX8_init_69 : decode cX8_init 69 = .ok (.putfield 43, 3) := by decide +kernel
theorem dX8_init_72 : decode cX8_init 72 = .ok (.aload_n 0, 1) := by decide +kernel
theorem dX8_init_73 : decode cX8_init 73 = .ok (.bipush 8, 2) := by decide +kernel
theorem dX8_init_75 : decode cX8_init 75 = .ok (.newarray .int, 2) := by decide +kernel
theorem dX8_init_77 : decode cX8_init 77 = .ok (.putfield 46, 3) := by decide +kernel
theorem dX8_init_80 : decode cX8_init 80 = .ok (.aload_n 0, 1) := by decide +kernel
theorem dX8_init_81 : decode cX8_init 81 = .ok (.bipush 8, 2) := by decide +kernel
theorem dX8_init_83 : decode cX8_init 83 = .ok (.newarray .int, 2) := by decide +kernel
theorem dX8_init_85 : decode cX8_init 85 = .ok (.putfield 49, 3) := by decide +kernel
theorem dX8_init_88 : decode cX8_init 88 = .ok (.iconst 0, 1) := by decide +kernel
theorem dX8_init_89 : decode cX8_init 89 = .ok (.istore_n 1, 1) := by decide +kernel
theorem dX8_init_90 : decode cX8_init 90 = .ok (.iload_n 1, 1) := by decide +kernel
theorem dX8_init_91 : decode cX8_init 91 = .ok (.bipush 10, 2) := by decide +kernel
theorem dX8_init_93 : decode cX8_init 93 = .ok (.if_icmp .ge 22, 3) := by decide +kernel
theorem dX8_init_96 : decode cX8_init 96 = .ok (.aload_n 0, 1) := by decide +kernel
theorem dX8_init_97 : decode cX8_init 97 = .ok (.getfield 11, 3) := by decide +kernel
theorem dX8_init_100 : decode cX8_init 100 = .ok (.iload_n 1, 1) := by decide +kernel
theorem dX8_init_101 : decode cX8_init 101 = .ok (.new 9, 3) := by decide +kernel
theorem dX8_init_104 : decode cX8_init 104 = .ok (.dup, 1) := by decide +kernel
theorem dX8_init_105 : decode cX8_init 105 = .ok (.invokespecial 52, 3) := by decide +kernel
theorem dX8_init_108 : decode cX8_init 108 = .ok (.aastore, 1) := by decide +kernel
theorem dX8_init_109 : decode cX8_init 109 = .ok (.iinc 1 1, 3) := by decide +kernel
theorem dX8_init_112 : decode cX8_init 112 = .ok (.goto (-22), 3) := by decide +kernel
theorem dX8_init_115 : decode cX8_init 115 = .ok (.iconst 0, 1) := by decide +kernel
theorem dX8_init_116 : decode cX8_init 116 = .ok (.istore_n 1, 1) := by decide +kernel
theorem dX8_init_117 : decode cX8_init 117 = .ok (.iload_n 1, 1) := by decide +kernel
theorem dX8_init_118 : decode cX8_init 118 = .ok (.iconst 2, 1) := by decide +kernel
theorem dX8_init_119 : decode cX8_init 119 = .ok (.if_icmp .ge 22, 3) := by decide +kernel
theorem dX8_init_122 : decode cX8_init 122 = .ok (.aload_n 0, 1) := by decide +kernel
theorem dX8_init_123 : decode cX8_init 123 = .ok (.getfield 19, 3) := by decide +kernel
theorem dX8_init_126 : decode cX8_init 126 = .ok (.iload_n 1, 1) := by decide +kernel
theorem dX8_init_127 : decode cX8_init 127 = .ok (.new 17, 3) := by decide +kernel
theorem dX8_init_130 : decode cX8_init 130 = .ok (.dup, 1) := by decide +kernel
theorem dX8_init_131 : decode cX8_init 131 = .ok (.invokespecial 53, 3) := by decide +kernel
theorem dX8_init_134 : decode cX8_init 134 = .ok (.aastore, 1) := by decide +kernel
theorem dX8_init_135 : decode cX8_init 135 = .ok (.iinc 1 1, 3) := by decide +kernel
theorem dX8_init_138 : decode cX8_init 138 = .ok (.goto (-21), 3) := by decide +kernel
theorem dX8_init_141 : decode cX8_init 141 = .ok (.iconst 0, 1) := by decide +kernel
theorem dX8_init_142 : decode cX8_init 142 = .ok (.istore_n 1, 1) := by decide +kernel
theorem dX8_init_143 : decode cX8_init 143 = .ok (.iload_n 1, 1) := by decide +kernel
theorem dX8_init_144 : decode cX8_init 144 = .ok (.iconst 4, 1) := by decide +kernel
theorem dX8_init_145 : decode cX8_init 145 = .ok (.if_icmp .ge 22, 3) := by decide +kernel
theorem dX8_init_148 : decode cX8_init 148 = .ok (.aload_n 0, 1) := by decide +kernel
theorem dX8_init_149 : decode cX8_init 149 = .ok (.getfield 23, 3) := by decide +kernel
theorem dX8_init_152 : decode cX8_init 152 = .ok (.iload_n 1, 1) := by decide +kernel
theorem dX8_init_153 : decode cX8_init 153 = .ok (.new 17, 3) := by decide +kernel
theorem dX8_init_156 : decode cX8_init 156 = .ok (.dup, 1) := by decide +kernel
theorem dX8_init_157 : decode cX8_init 157 = .ok (.invokespecial 53, 3) := by decide +kernel
theorem dX8_init_160 : decode cX8_init 160 = .ok (.aastore, 1) := by decide +kernel
theorem dX8_init_161 : decode cX8_init 161 = .ok (.iinc 1 1, 3) := by decide +kernel
theorem dX8_init_164 : decode cX8_init 164 = .ok (.goto (-21), 3) := by decide +kernel
theorem dX8_init_167 : decode cX8_init 167 = .ok (.return_, 1) := by decide +kernel
theorem dX8_copyFrom_0 : decode cX8_copyFrom 0 = .ok (.iconst 0, 1) := by decide +kernel
theorem dX8_copyFrom_1 : decode cX8_copyFrom 1 = .ok (.istore_n 2, 1) := by decide +kernel
theorem dX8_copyFrom_2 : decode cX8_copyFrom 2 = .ok (.iload_n 2, 1) := by decide +kernel
theorem dX8_copyFrom_3 : decode cX8_copyFrom 3 = .ok (.aload_n 1, 1) := by decide +kernel
theorem dX8_copyFrom_4 : decode cX8_copyFrom 4 = .ok (.getfield 57, 3) := by decide +kernel
theorem dX8_copyFrom_7 : decode cX8_copyFrom 7 = .ok (.if_icmp .ge 24, 3) := by decide +kernel
theorem dX8_copyFrom_10 : decode cX8_copyFrom 10 = .ok (.aload_n 0, 1) := by decide +kernel
theorem dX8_copyFrom_11 : decode cX8_copyFrom 11 = .ok (.getfield 11, 3) := by decide +kernel
theorem dX8_copyFrom_14 : decode cX8_copyFrom 14 = .ok (.iload_n 2, 1) := by decide +kernel
theorem dX8_copyFrom_15 : decode cX8_copyFrom 15 = .ok (.aaload, 1) := by decide +kernel
theorem dX8_copyFrom_16 : decode cX8_copyFrom 16 = .ok (.aload_n 1, 1) := by decide +kernel
theorem dX8_copyFrom_17 : decode cX8_copyFrom 17 = .ok (.getfield 11, 3) := by decide +kernel
theorem dX8_copyFrom_20 : decode cX8_copyFrom 20 = .ok (.iload_n 2, 1) := by decide +kernel
theorem dX8_copyFrom_21 : decode cX8_copyFrom 21 = .ok (.aaload, 1) := by decide +kernel
theorem dX8_copyFrom_22 : decode cX8_copyFrom 22 = .ok (.invokevirtual 60, 3) := by decide +kernel
theorem dX8_copyFrom_25 : decode cX8_copyFrom 25 = .ok (.iinc 2 1, 3) := by decide +kernel
theorem dX8_copyFrom_28 : decode cX8_copyFrom 28 = .ok (.goto (-26), 3) := by decide +kernel
theorem dX8_copyFrom_31 : decode cX8_copyFrom 31 = .ok (.aload_n 0, 1) := by decide +kernel
theorem dX8_copyFrom_32 : decode cX8_copyFrom 32 = .ok (.aload_n 1, 1) := by decide +kernel
theorem dX8_copyFrom_33 : decode cX8_copyFrom 33 = .ok (.getfield 57, 3) := by decide +kernel
theorem dX8_copyFrom_36 : decode cX8_copyFrom 36 = .ok (.putfield 57, 3) := by decide +kernel
theorem dX8_copyFrom_39 : decode cX8_copyFrom 39 = .ok (.iconst 0, 1) := by decide +kernel
theorem dX8_copyFrom_40 : decode cX8_copyFrom 40 = .ok (.istore_n 2, 1) := by decide +kernel
theorem dX8_copyFrom_41 : decode cX8_copyFrom 41 = .ok (.iload_n 2, 1) := by decide +kernel
theorem dX8_copyFrom_42 : decode cX8_copyFrom 42 = .ok (.iconst 2, 1) := by decide +kernel
theorem dX8_copyFrom_43 : decode cX8_copyFrom 43 = .ok (.if_icmp .ge 24, 3) := by decide +kernel
end
section
theorem dX8_copyFrom_46 : decode cX8_copyFrom 46 = .ok (.aload_n 0, 1) := by decide +kernel
theorem dX8_copyFrom_47 : decode cX8_copyFrom 47 = .ok (.getfield 19, 3) := by decide +kernel
theorem dX8_copyFrom_50 : decode cX8_copyFrom 50 = .ok (.iload_n 2, 1) := by decide +kernel
theorem dX8_copyFrom_51 : decode cX8_copyFrom 51 = .ok (.aaload, 1) := by decide +kernel
theorem dX8_copyFrom_52 : decode cX8_copyFrom 52 = .ok (.aload_n 1, 1) := by decide +kernel
theorem dX8_copyFrom_53 : decode cX8_copyFrom 53 = .ok (.getfield 19, 3) := by decide +kernel
theorem dX8_copyFrom_56 : decode cX8_copyFrom 56 = .ok (.iload_n 2, 1) := by decide +kernel
theorem dX8_copyFrom_57 : decode cX8_copyFrom 57 = .ok (.aaload, 1) := by decide +kernel
theorem dX8_copyFrom_58 : decode cX8_copyFrom 58 = .ok (.invokevirtual 64, 3) := by decide +kernel
theorem dX8_copyFrom_61 : decode cX8_copyFrom 61 = .ok (.iinc 2 1, 3) := by decide +kernel
theorem dX8_copyFrom_64 : decode cX8_copyFrom 64 = .ok (.goto (-23), 3) := by decide +kernel
theorem dX8_copyFrom_67 : decode cX8_copyFrom 67 = .ok (.iconst 0, 1) := by decide +kernel
theorem dX8_copyFrom_68 : decode cX8_copyFrom 68 = .ok (.istore_n 2, 1) := by decide +kernel
theorem dX8_copyFrom_69 : decode cX8_copyFrom 69 = .ok (.iload_n 2, 1) := by decide +kernel
theorem dX8_copyFrom_70 : decode cX8_copyFrom 70 = .ok (.iconst 4, 1) := by decide +kernel
theorem dX8_copyFrom_71 : decode cX8_copyFrom 71 = .ok (.if_icmp .ge 24, 3) := by decide +kernel
theorem dX8_copyFrom_74 : decode cX8_copyFrom 74 = .ok (.aload_n 0, 1) := by decide +kernel
theorem dX8_copyFrom_75 : decode cX8_copyFrom 75 = .ok (.getfield 23, 3) := by decide +kernel
theorem dX8_copyFrom_78 : decode cX8_copyFrom 78 = .ok (.iload_n 2, 1) := by decide +kernel
theorem dX8_copyFrom_79 : decode cX8_copyFrom 79 = .ok (.aaload, 1) := by decide +kernel
theorem dX8_copyFrom_80 : decode cX8_copyFrom 80 = .ok (.aload_n 1, 1) := by decide +kernel
theorem dX8_copyFrom_81 : decode cX8_copyFrom 81 = .ok (.getfield 23, 3) := by decide +kernel
theorem dX8_copyFrom_84 : decode cX8_copyFrom 84 = .ok (.iload_n 2, 1) := by decide +kernel
theorem dX8_copyFrom_85 : decode cX8_copyFrom 85 = .ok (.aaload, 1) := by decide +kernel
theorem dX8_copyFrom_86 : decode cX8_copyFrom 86 = .ok (.invokevirtual 64, 3) := by decide +kernel
theorem dX8_copyFrom_89 : decode cX8_copyFrom 89 = .ok (.iinc 2 1, 3) := by decide +kernel
theorem dX8_copyFrom_92 : decode cX8_copyFrom 92 = .ok (.goto (-23), 3) := by decide +kernel
theorem dX8_copyFrom_95 : decode cX8_copyFrom 95 = .ok (.aload_n 0, 1) := by decide +kernel
theorem dX8_copyFrom_96 : decode cX8_copyFrom 96 = .ok (.aload_n 1, 1) := by decide +kernel
theorem dX8_copyFrom_97 : decode cX8_copyFrom 97 = .ok (.getfield 54, 3) := by decide +kernel
theorem dX8_copyFrom_100 : decode cX8_copyFrom 100 = .ok (.putfield 54, 3) := by decide +kernel
theorem dX8_copyFrom_103 : decode cX8_copyFrom 103 = .ok (.aload_n 0, 1) := by decide +kernel
theorem dX8_copyFrom_104 : decode cX8_copyFrom 104 = .ok (.aload_n 1, 1) := by decide +kernel
theorem dX8_copyFrom_105 : decode cX8_copyFrom 105 = .ok (.getfield 26, 3) := by decide +kernel
theorem dX8_copyFrom_108 : decode cX8_copyFrom 108 = .ok (.putfield 26, 3) := by decide +kernel
theorem dX8_copyFrom_111 : decode cX8_copyFrom 111 = .ok (.aload_n 0, 1) := by decide +kernel
theorem dX8_copyFrom_112 : decode cX8_copyFrom 112 = .ok (.aload_n 1, 1) := by decide +kernel
theorem dX8_copyFrom_113 : decode cX8_copyFrom 113 = .ok (.getfield 67, 3) := by decide +kernel
theorem dX8_copyFrom_116 : decode cX8_copyFrom 116 = .ok (.putfield 67, 3) := by decide +kernel
theorem dX8_copyFrom_119 : decode cX8_copyFrom 119 = .ok (.aload_n 0, 1) := by decide +kernel
theorem dX8_copyFrom_120 : decode cX8_copyFrom 120 = .ok (.aload_n 1, 1) := by decide +kernel
theorem dX8_copyFrom_121 : decode cX8_copyFrom 121 = .ok (.getfield 30, 3) := by decide +kernel
theorem dX8_copyFrom_124 : decode cX8_copyFrom 124 = .ok (.putfield 30, 3) := by decide +kernel
theorem dX8_copyFrom_127 : decode cX8_copyFrom 127 = .ok (.aload_n 1, 1) := by decide +kernel
theorem dX8_copyFrom_128 : decode cX8_copyFrom 128 = .ok (.getfield 33, 3) := by decide +kernel
theorem dX8_copyFrom_131 : decode cX8_copyFrom 131 = .ok (.iconst 0, 1) := by decide +kernel
theorem dX8_copyFrom_132 : decode cX8_copyFrom 132 = .ok (.aload_n 0, 1) := by decide +kernel
theorem dX8_copyFrom_133 : decode cX8_copyFrom 133 = .ok (.getfield 33, 3) := by decide +kernel
theorem dX8_copyFrom_136 : decode cX8_copyFrom 136 = .ok (.iconst 0, 1) := by decide +kernel
theorem dX8_copyFrom_137 : decode cX8_copyFrom 137 = .ok (.bipush 20, 2) := by decide +kernel
theorem dX8_copyFrom_139 : decode cX8_copyFrom 139 = .ok (.invokestatic 70, 3) := by decide +kernel
theorem dX8_copyFrom_142 : decode cX8_copyFrom 142 = .ok (.aload_n 1, 1) := by decide +kernel
theorem dX8_copyFrom_143 : decode cX8_copyFrom 143 = .ok (.getfield 37, 3) := by decide +kernel
theorem dX8_copyFrom_146 : decode cX8_copyFrom 146 = .ok (.iconst 0, 1) := by decide +kernel
theorem dX8_copyFrom_147 : decode cX8_copyFrom 147 = .ok (.aload_n 0, 1) := by decide +kernel
theorem dX8_copyFrom_148 : decode cX8_copyFrom 148 = .ok (.getfield 37, 3) := by decide +kernel
theorem dX8_copyFrom_151 : decode cX8_copyFrom 151 = .ok (.iconst 0, 1) := by decide +kernel
theorem dX8_copyFrom_152 : decode cX8_copyFrom 152 = .ok (.bipush 20, 2) := by decide +kernel
theorem dX8_copyFrom_154 : decode cX8_copyFrom 154 = .ok (.invokestatic 70, 3) := by decide +kernel
theorem dX8_copyFrom_157 : decode cX8_copyFrom 157 = .ok (.aload_n 0, 1) := by decide +kernel
theorem dX8_copyFrom_158 : decode cX8_copyFrom 158 = .ok (.aload_n 1, 1) := by decide +kernel
theorem dX8_copyFrom_159 : decode cX8_copyFrom 159 = .ok (.getfield 76, 3) := by decide +kernel
theorem dX8_copyFrom_162 : decode cX8_copyFrom 162 = .ok (.putfield 76, 3) := by decide +kernel
theorem dX8_copyFrom_165 : decode cX8_copyFrom 165 = .ok (.aload_n 1, 1) := by decide +kernel
theorem dX8_copyFrom_166 : decode cX8_copyFrom 166 = .ok (.getfield 40, 3) := by decide +kernel
theorem dX8_copyFrom_169 : decode cX8_copyFrom 169 = .ok (.iconst 0, 1) := by decide +kernel
theorem dX8_copyFrom_170 : decode cX8_copyFrom 170 = .ok (.aload_n 0, 1) := by decide +kernel
theorem dX8_copyFrom_171 : decode cX8_copyFrom 171 = .ok (.getfield 40, 3) := by decide +kernel
theorem dX8_copyFrom_174 : decode cX8_copyFrom 174 = .ok (.iconst 0, 1) := by decide +kernel
theorem dX8_copyFrom_175 : decode cX8_copyFrom 175 = .ok (.bipush 8, 2) := by decide +kernel
theorem dX8_copyFrom_177 : decode cX8_copyFrom 177 = .ok (.invokestatic 70, 3) := by decide +kernel
theorem dX8_copyFrom_180 : decode cX8_copyFrom 180 = .ok (.aload_n 1, 1) := by decide +kernel
theorem dX8_copyFrom_181 : decode cX8_copyFrom 181 = .ok (.getfield 43, 3) := by decide +kernel
theorem dX8_copyFrom_184 : decode cX8_copyFrom 184 = .ok (.iconst 0, 1) := by decide +kernel
theorem dX8_copyFrom_185 : decode cX8_copyFrom 185 = .ok (.aload_n 0, 1) := by decide +kernel
theorem dX8_copyFrom_186 : decode cX8_copyFrom 186 = .ok (.getfield 43, 3) := by decide +kernel
theorem dX8_copyFrom_189 : decode cX8_copyFrom 189 = .ok (.iconst 0, 1) := by decide +kernel
theorem dX8_copyFrom_190 : decode cX8_copyFrom 190 = .ok (.bipush 8, 2) := by decide +kernel
theorem dX8_copyFrom_192 : decode cX8_copyFrom 192 = .ok (.invokestatic 70, 3) := by decide +kernel
theorem dX8_copyFrom_195 : decode cX8_copyFrom 195 = .ok (.aload_n 0, 1) := by decide +kernel
theorem dX8_copyFrom_196 : decode cX8_copyFrom 196 = .ok (.aload_n 1, 1) := by decide +kernel
theorem dX8_copyFrom_197 : decode cX8_copyFrom 197 = .ok (.getfield 79, 3) := by decide +kernel
theorem dX8_copyFrom_200 : decode cX8_copyFrom 200 = .ok (.putfield 79, 3) := by decide +kernel
theorem dX8_copyFrom_203 : decode cX8_copyFrom 203 = .ok (.aload_n 1, 1) := by decide +kernel
theorem dX8_copyFrom_204 : decode cX8_copyFrom 204 = .ok (.getfield 46, 3) := by decide +kernel
theorem dX8_copyFrom_207 : decode cX8_copyFrom 207 = .ok (.iconst 0, 1) := by decide +kernel
theorem dX8_copyFrom_208 : decode cX8_copyFrom 208 = .ok (.aload_n 0, 1) := by decide +kernel
theorem dX8_copyFrom_209 : decode cX8_copyFrom 209 = .ok (.getfield 46, 3) := by decide +kernel
theorem dX8_copyFrom_212 : decode cX8_copyFrom 212 = .ok (.iconst 0, 1) := by decide +kernel
theorem dX8_copyFrom_213 : decode cX8_copyFrom 213 = .ok (.bipush 8, 2) := by decide +kernel
theorem dX8_copyFrom_215 : decode cX8_copyFrom 215 = .ok (.invokestatic 70, 3) := by decide +kernel
theorem dX8_copyFrom_218 : decode cX8_copyFrom 218 = .ok (.aload_n 1, 1) := by decide +kernel
theorem dX8_copyFrom_219 : decode cX8_copyFrom 219 = .ok (.getfield 49, 3) := by decide +kernel
theorem dX8_copyFrom_222 : decode cX8_copyFrom 222 = .ok (.iconst 0, 1) := by decide +kernel
theorem dX8_copyFrom_223 : decode cX8_copyFrom 223 = .ok (.aload_n 0, 1) := by decide +kernel
theorem dX8_copyFrom_224 : decode cX8_copyFrom 224 = .ok (.getfield 49, 3) := by decide +kernel
theorem dX8_copyFrom_227 : decode cX8_copyFrom 227 = .ok (.iconst 0, 1) := by decide +kernel
theorem dX8_copyFrom_228 : decode cX8_copyFrom 228 = .ok (.bipush 8, 2) := by decide +kernel
theorem dX8_copyFrom_230 : decode cX8_copyFrom 230 = .ok (.invokestatic 70, 3) := by decide +kernel
theorem dX8_copyFrom_233 : decode cX8_copyFrom 233 = .ok (.aload_n 0, 1) := by decide +kernel
theorem dX8_copyFrom_234 : decode cX8_copyFrom 234 = .ok (.aload_n 1, 1) := by decide +kernel
theorem dX8_copyFrom_235 : decode cX8_copyFrom 235 = .ok (.getfield 82, 3) := by decide +kernel
theorem dX8_copyFrom_238 : decode cX8_copyFrom 238 = .ok (.putfield 82, 3) := by decide +kernel
theorem dX8_copyFrom_241 : decode cX8_copyFrom 241 = .ok (.return_, 1) := by decide +kernel
theorem dX9_init_0 : decode cX9_init 0 = .ok (.aload_n 0, 1) := by decide +kernel
theorem dX9_init_1 : decode cX9_init 1 = .ok (.invokespecial 3, 3) := by decide +kernel
theorem dX9_init_4 : decode cX9_init 4 = .ok (.aload_n 0, 1) := by decide +kernel
theorem dX9_init_5 : decode cX9_init 5 = .ok (.new 9, 3) := by decide +kernel
theorem dX9_init_8 : decode cX9_init 8 = .ok (.dup, 1) := by decide +kernel
theorem dX9_init_9 : decode cX9_init 9 = .ok (.invokespecial 11, 3) := by decide +kernel
theorem dX9_init_12 : decode cX9_init 12 = .ok (.putfield 12, 3) := by decide +kernel
theorem dX9_init_15 : decode cX9_init 15 = .ok (.aload_n 0, 1) := by decide +kernel
theorem dX9_init_16 : decode cX9_init 16 = .ok (.sipush 500, 3) := by decide +kernel
theorem dX9_init_19 : decode cX9_init 19 = .ok (.newarray .int, 2) := by decide +kernel
theorem dX9_init_21 : decode cX9_init 21 = .ok (.putfield 16, 3) := by decide +kernel
theorem dX9_init_24 : decode cX9_init 24 = .ok (.aload_n 0, 1) := by decide +kernel
theorem dX9_init_25 : decode cX9_init 25 = .ok (.new 20, 3) := by decide +kernel
theorem dX9_init_28 : decode cX9_init 28 = .ok (.dup, 1) := by decide +kernel
theorem dX9_init_29 : decode cX9_init 29 = .ok (.invokespecial 22, 3) := by decide +kernel
theorem dX9_init_32 : decode cX9_init 32 = .ok (.putfield 23, 3) := by decide +kernel
theorem dX9_init_35 : decode cX9_init 35 = .ok (.aload_n 0, 1) := by decide +kernel
theorem dX9_init_36 : decode cX9_init 36 = .ok (.new 27, 3) := by decide +kernel
theorem dX9_init_39 : decode cX9_init 39 = .ok (.dup, 1) := by decide +kernel
theorem dX9_init_40 : decode cX9_init 40 = .ok (.invokespecial 29, 3) := by decide +kernel
theorem dX9_init_43 : decode cX9_init 43 = .ok (.putfield 30, 3) := by decide +kernel
theorem dX9_init_46 : decode cX9_init 46 = .ok (.aload_n 0, 1) := by decide +kernel
theorem dX9_init_47 : decode cX9_init 47 = .ok (.new 34, 3) := by decide +kernel
theorem dX9_init_50 : decode cX9_init 50 = .ok (.dup, 1) := by decide +kernel
theorem dX9_init_51 : decode cX9_init 51 = .ok (.invokespecial 36, 3) := by decide +kernel
theorem dX9_init_54 : decode cX9_init 54 = .ok (.putfield 37, 3) := by decide +kernel
theorem dX9_init_57 : decode cX9_init 57 = .ok (.aload_n 0, 1) := by decide +kernel
theorem dX9_init_58 : decode cX9_init 58 = .ok (.new 41, 3) := by decide +kernel
theorem dX9_init_61 : decode cX9_init 61 = .ok (.dup, 1) := by decide +kernel
theorem dX9_init_62 : decode cX9_init 62 = .ok (.invokespecial 43, 3) := by decide +kernel
theorem dX9_init_65 : decode cX9_init 65 = .ok (.putfield 44, 3) := by decide +kernel
theorem dX9_init_68 : decode cX9_init 68 = .ok (.aload_n 0, 1) := by decide +kernel
theorem dX9_init_69 : decode cX9_init 69 = .ok (.new 48, 3) := by decide +kernel
theorem dX9_init_72 : decode cX9_init 72 = .ok (.dup, 1) := by decide +kernel
theorem dX9_init_73 : decode cX9_init 73 = .ok (.invokespecial 50, 3) := by decide +kernel
theorem dX9_init_76 : decode cX9_init 76 = .ok (.putfield 51, 3) := by decide +kernel
theorem dX9_init_79 : decode cX9_init 79 = .ok (.aload_n 0, 1) := by decide +kernel
theorem dX9_init_80 : decode cX9_init 80 = .ok (.bipush 10, 2) := by decide +kernel
theorem dX9_init_82 : decode cX9_init 82 = .ok (.newarray .int, 2) := by decide +kernel
theorem dX9_init_84 : decode cX9_init 84 = .ok (.putfield 55, 3) := by decide +kernel
theorem dX9_init_87 : decode cX9_init 87 = .ok (.aload_n 0, 1) := by decide +kernel
theorem dX9_init_88 : decode cX9_init 88 = .ok (.bipush 16, 2) := by decide +kernel
theorem dX9_init_90 : decode cX9_init 90 = .ok (.newarray .int, 2) := by decide +kernel
theorem dX9_init_92 : decode cX9_init 92 = .ok (.putfield 58, 3) := by decide +kernel
theorem dX9_init_95 : decode cX9_init 95 = .ok (.aload_n 0, 1) := by decide +kernel
theorem dX9_init_96 : decode cX9_init 96 = .ok (.bipush 16, 2) := by decide +kernel
theorem dX9_init_98 : decode cX9_init 98 = .ok (.newarray .int, 2) := by decide +kernel
theorem dX9_init_100 : decode cX9_init 100 = .ok (.putfield 61, 3) := by decide +kernel
theorem dX9_init_103 : decode cX9_init 103 = .ok (.return_, 1) := by decide +kernel
theorem dX9_bar_0 : decode cX9_bar 0 = .ok (.iload_n 1, 1) := by decide +kernel
theorem dX9_bar_1 : decode cX9_bar 1 = .ok (.iconst 3, 1) := by decide +kernel
theorem dX9_bar_2 : decode cX9_bar 2 = .ok (.if_icmp .lt 21, 3) := by decide +kernel
theorem dX9_bar_5 : decode cX9_bar 5 = .ok (.iload_n 1, 1) := by decide +kernel
theorem dX9_bar_6 : decode cX9_bar 6 = .ok (.bipush 16, 2) := by decide +kernel
theorem dX9_bar_8 : decode cX9_bar 8 = .ok (.if_icmp .gt 15, 3) := by decide +kernel
theorem dX9_bar_11 : decode cX9_bar 11 = .ok (.aload_n 0, 1) := by decide +kernel
theorem dX9_bar_12 : decode cX9_bar 12 = .ok (.getfield 12, 3) := by decide +kernel
theorem dX9_bar_15 : decode cX9_bar 15 = .ok (.getfield 64, 3) := by decide +kernel
theorem dX9_bar_18 : decode cX9_bar 18 = .ok (.bipush 10, 2) := by decide +kernel
theorem dX9_bar_20 : decode cX9_bar 20 = .ok (.if_icmp .lt 5, 3) := by decide +kernel
theorem dX9_bar_23 : decode cX9_bar 23 = .ok (.iconst (-1), 1) := by decide +kernel
theorem dX9_bar_24 : decode cX9_bar 24 = .ok (.ireturn, 1) := by decide +kernel
theorem dX9_bar_25 : decode cX9_bar 25 = .ok (.aload_n 0, 1) := by decide +kernel
theorem dX9_bar_26 : decode cX9_bar 26 = .ok (.getfield 12, 3) := by decide +kernel
theorem dX9_bar_29 : decode cX9_bar 29 = .ok (.getfield 68, 3) := by decide +kernel
theorem dX9_bar_32 : decode cX9_bar 32 = .ok (.aload_n 0, 1) := by decide +kernel
theorem dX9_bar_33 : decode cX9_bar 33 = .ok (.getfield 12, 3) := by decide +kernel
theorem dX9_bar_36 : decode cX9_bar 36 = .ok (.getfield 64, 3) := by decide +kernel
theorem dX9_bar_39 : decode cX9_bar 39 = .ok (.aaload, 1) := by decide +kernel
theorem dX9_bar_40 : decode cX9_bar 40 = .ok (.iload_n 1, 1) := by decide +kernel
theorem dX9_bar_41 : decode cX9_bar 41 = .ok (.invokevirtual 72, 3) := by decide +kernel
theorem dX9_bar_44 : decode cX9_bar 44 = .ok (.aload_n 0, 1) := by decide +kernel
theorem dX9_bar_45 : decode cX9_bar 45 = .ok (.getfield 12, 3) := by decide +kernel
theorem dX9_bar_48 : decode cX9_bar 48 = .ok (.dup, 1) := by decide +kernel
theorem dX9_bar_49 : decode cX9_bar 49 = .ok (.getfield 64, 3) := by decide +kernel
theorem dX9_bar_52 : decode cX9_bar 52 = .ok (.iconst 1, 1) := by decide +kernel
theorem dX9_bar_53 : decode cX9_bar 53 = .ok (.iadd, 1) := by decide +kernel
theorem dX9_bar_54 : decode cX9_bar 54 = .ok (.putfield 64, 3) := by decide +kernel
theorem dX9_bar_57 : decode cX9_bar 57 = .ok (.aload_n 0, 1) := by decide +kernel
theorem dX9_bar_58 : decode cX9_bar 58 = .ok (.getfield 12, 3) := by decide +kernel
theorem dX9_bar_61 : decode cX9_bar 61 = .ok (.getfield 64, 3) := by decide +kernel
theorem dX9_bar_64 : decode cX9_bar 64 = .ok (.iconst 1, 1) := by decide +kernel
theorem dX9_bar_65 : decode cX9_bar 65 = .ok (.isub, 1) := by decide +kernel
theorem dX9_bar_66 : decode cX9_bar 66 = .ok (.ireturn, 1) := by decide +kernel
theorem dX9_slice_0 : decode cX9_slice 0 = .ok (.aload_n 0, 1) := by decide +kernel
theorem dX9_slice_1 : decode cX9_slice 1 = .ok (.iload_n 1, 1) := by decide +kernel
theorem dX9_slice_2 : decode cX9_slice 2 = .ok (.invokevirtual 78, 3) := by decide +kernel
theorem dX9_slice_5 : decode cX9_slice 5 = .ok (.astore 6, 2) := by decide +kernel
theorem dX9_slice_7 : decode cX9_slice 7 = .ok (.aload 6, 2) := by decide +kernel
theorem dX9_slice_9 : decode cX9_slice 9 = .ok (.ifnull 52, 3) := by decide +kernel
theorem dX9_slice_12 : decode cX9_slice 12 = .ok (.aload 6, 2) := by decide +kernel
theorem dX9_slice_14 : decode cX9_slice 14 = .ok (.iload_n 2, 1) := by decide +kernel
theorem dX9_slice_15 : decode cX9_slice 15 = .ok (.invokevirtual 82, 3) := by decide +kernel
theorem dX9_slice_18 : decode cX9_slice 18 = .ok (.ifCond .eq 43, 3) := by decide +kernel
theorem dX9_slice_21 : decode cX9_slice 21 = .ok (.aload 6, 2) := by decide +kernel
theorem dX9_slice_23 : decode cX9_slice 23 = .ok (.getfield 86, 3) := by decide +kernel
theorem dX9_slice_26 : decode cX9_slice 26 = .ok (.ifCond .gt 35, 3) := by decide +kernel
theorem dX9_slice_29 : decode cX9_slice 29 = .ok (.iload_n 3, 1) := by decide +kernel
theorem dX9_slice_30 : decode cX9_slice 30 = .ok (.iconst 1, 1) := by decide +kernel
theorem dX9_slice_31 : decode cX9_slice 31 = .ok (.bipush 99, 2) := by decide +kernel
theorem dX9_slice_33 : decode cX9_slice 33 = .ok (.invokestatic 89, 3) := by decide +kernel
theorem dX9_slice_36 : decode cX9_slice 36 = .ok (.ifCond .eq 25, 3) := by decide +kernel
theorem dX9_slice_39 : decode cX9_slice 39 = .ok (.iload 4, 2) := by decide +kernel
theorem dX9_slice_41 : decode cX9_slice 41 = .ok (.iconst 1, 1) := by decide +kernel
theorem dX9_slice_42 : decode cX9_slice 42 = .ok (.bipush 9, 2) := by decide +kernel
theorem dX9_slice_44 : decode cX9_slice 44 = .ok (.invokestatic 89, 3) := by decide +kernel
theorem dX9_slice_47 : decode cX9_slice 47 = .ok (.ifCond .eq 14, 3) := by decide +kernel
theorem dX9_slice_50 : decode cX9_slice 50 = .ok (.iload 5, 2) := by decide +kernel
theorem dX9_slice_52 : decode cX9_slice 52 = .ok (.iconst 1, 1) := by decide +kernel
theorem dX9_slice_53 : decode cX9_slice 53 = .ok (.bipush 9, 2) := by decide +kernel
theorem dX9_slice_55 : decode cX9_slice 55 = .ok (.invokestatic 89, 3) := by decide +kernel
theorem dX9_slice_58 : decode cX9_slice 58 = .ok (.ifCond .ne 5, 3) := by decide +kernel
theorem dX9_slice_61 : decode cX9_slice 61 = .ok (.iconst 0, 1) := by decide +kernel
theorem dX9_slice_62 : decode cX9_slice 62 = .ok (.ireturn, 1) := by decide +kernel
theorem dX9_slice_63 : decode cX9_slice 63 = .ok (.aload 6, 2) := by decide +kernel
theorem dX9_slice_65 : decode cX9_slice 65 = .ok (.getfield 93, 3) := by decide +kernel
theorem dX9_slice_68 : decode cX9_slice 68 = .ok (.iload_n 2, 1) := by decide +kernel
theorem dX9_slice_69 : decode cX9_slice 69 = .ok (.iload_n 3, 1) := by decide +kernel
theorem dX9_slice_70 : decode cX9_slice 70 = .ok (.iastore, 1) := by decide +kernel
theorem dX9_slice_71 : decode cX9_slice 71 = .ok (.aload 6, 2) := by decide +kernel
theorem dX9_slice_73 : decode cX9_slice 73 = .ok (.getfield 96, 3) := by decide +kernel
theorem dX9_slice_76 : decode cX9_slice 76 = .ok (.iload_n 2, 1) := by decide +kernel
theorem dX9_slice_77 : decode cX9_slice 77 = .ok (.iload 4, 2) := by decide +kernel
theorem dX9_slice_79 : decode cX9_slice 79 = .ok (.iastore, 1) := by decide +kernel
theorem dX9_slice_80 : decode cX9_slice 80 = .ok (.aload 6, 2) := by decide +kernel
theorem dX9_slice_82 : decode cX9_slice 82 = .ok (.getfield 99, 3) := by decide +kernel
theorem dX9_slice_85 : decode cX9_slice 85 = .ok (.iload_n 2, 1) := by decide +kernel
theorem dX9_slice_86 : decode cX9_slice 86 = .ok (.iload 5, 2) := by decide +kernel
theorem dX9_slice_88 : decode cX9_slice 88 = .ok (.iastore, 1) := by decide +kernel
theorem dX9_slice_89 : decode cX9_slice 89 = .ok (.iconst 1, 1) := by decide +kernel
theorem dX9_slice_90 : decode cX9_slice 90 = .ok (.ireturn, 1) := by decide +kernel
theorem dX9_wax_0 : decode cX9_wax 0 = .ok (.aload_n 0, 1) := by decide +kernel
theorem dX9_wax_1 : decode cX9_wax 1 = .ok (.iload_n 1, 1) := by decide +kernel
theorem dX9_wax_2 : decode cX9_wax 2 = .ok (.invokevirtual 78, 3) := by decide +kernel
theorem dX9_wax_5 : decode cX9_wax 5 = .ok (.astore 4, 2) := by decide +kernel
theorem dX9_wax_7 : decode cX9_wax 7 = .ok (.aload 4, 2) := by decide +kernel
theorem dX9_wax_9 : decode cX9_wax 9 = .ok (.ifnull 22, 3) := by decide +kernel
theorem dX9_wax_12 : decode cX9_wax 12 = .ok (.aload 4, 2) := by decide +kernel
theorem dX9_wax_14 : decode cX9_wax 14 = .ok (.iload_n 2, 1) := by decide +kernel
theorem dX9_wax_15 : decode cX9_wax 15 = .ok (.invokevirtual 82, 3) := by decide +kernel
theorem dX9_wax_18 : decode cX9_wax 18 = .ok (.ifCond .eq 13, 3) := by decide +kernel
theorem dX9_wax_21 : decode cX9_wax 21 = .ok (.iload_n 3, 1) := by decide +kernel
theorem dX9_wax_22 : decode cX9_wax 22 = .ok (.iconst 0, 1) := by decide +kernel
theorem dX9_wax_23 : decode cX9_wax 23 = .ok (.bipush 99, 2) := by decide +kernel
theorem dX9_wax_25 : decode cX9_wax 25 = .ok (.invokestatic 89, 3) := by decide +kernel
theorem dX9_wax_28 : decode cX9_wax 28 = .ok (.ifCond .ne 5, 3) := by decide +kernel
theorem dX9_wax_31 : decode cX9_wax 31 = .ok (.iconst 0, 1) := by decide +kernel
theorem dX9_wax_32 : decode cX9_wax 32 = .ok (.ireturn, 1) := by decide +kernel
theorem dX9_wax_33 : decode cX9_wax 33 = .ok (.aload 4, 2) := by decide +kernel
theorem dX9_wax_35 : decode cX9_wax 35 = .ok (.getfield 102, 3) := by decide +kernel
theorem dX9_wax_38 : decode cX9_wax 38 = .ok (.iload_n 2, 1) := by decide +kernel
theorem dX9_wax_39 : decode cX9_wax 39 = .ok (.iload_n 3, 1) := by decide +kernel
theorem dX9_wax_40 : decode cX9_wax 40 = .ok (.iastore, 1) := by decide +kernel
theorem dX9_wax_41 : decode cX9_wax 41 = .ok (.iconst 1, 1) := by decide +kernel
theorem dX9_wax_42 : decode cX9_wax 42 = .ok (.ireturn, 1) := by decide +kernel
theorem dX9_of_0 : decode cX9_of 0 = .ok (.aload_n 0, 1) := by decide +kernel
theorem dX9_of_1 : decode cX9_of 1 = .ok (.iload_n 1, 1) := by decide +kernel
theorem dX9_of_2 : decode cX9_of 2 = .ok (.invokevirtual 78, 3) := by decide +kernel
theorem dX9_of_5 : decode cX9_of 5 = .ok (.astore 4, 2) := by decide +kernel
theorem dX9_of_7 : decode cX9_of 7 = .ok (.aload 4, 2) := by decide +kernel
theorem dX9_of_9 : decode cX9_of 9 = .ok (.ifnull 12, 3) := by decide +kernel
theorem dX9_of_12 : decode cX9_of 12 = .ok (.aload 4, 2) := by decide +kernel
theorem dX9_of_14 : decode cX9_of 14 = .ok (.iload_n 2, 1) := by decide +kernel
theorem dX9_of_15 : decode cX9_of 15 = .ok (.invokevirtual 82, 3) := by decide +kernel
theorem dX9_of_18 : decode cX9_of 18 = .ok (.ifCond .ne 5, 3) := by decide +kernel
theorem dX9_of_21 : decode cX9_of 21 = .ok (.iconst (-1), 1) := by decide +kernel
theorem dX9_of_22 : decode cX9_of 22 = .ok (.ireturn, 1) := by decide +kernel
theorem dX9_of_23 : decode cX9_of 23 = .ok (.iload_n 3, 1) := by decide +kernel
theorem dX9_of_24 : decode cX9_of 24 = .ok (.tableswitch 64 0 3 #[32, 40, 48, 56], 32) := by decide +kernel
theorem dX9_of_56 : decode cX9_of 56 = .ok (.aload 4, 2) := by decide +kernel
theorem dX9_of_58 : decode cX9_of 58 = .ok (.getfield 93, 3) := by decide +kernel
theorem dX9_of_61 : decode cX9_of 61 = .ok (.iload_n 2, 1) := by decide +kernel
theorem dX9_of_62 : decode cX9_of 62 = .ok (.iaload, 1) := by decide +kernel
theorem dX9_of_63 : decode cX9_of 63 = .ok (.ireturn, 1) := by decide +kernel
theorem dX9_of_64 : decode cX9_of 64 = .ok (.aload 4, 2) := by decide +kernel
theorem dX9_of_66 : decode cX9_of 66 = .ok (.getfield 96, 3) := by decide +kernel
theorem dX9_of_69 : decode cX9_of 69 = .ok (.iload_n 2, 1) := by decide +kernel
theorem dX9_of_70 : decode cX9_of 70 = .ok (.iaload, 1) := by decide +kernel
theorem dX9_of_71 : decode cX9_of 71 = .ok (.ireturn, 1) := by decide +kernel
theorem dX9_of_72 : decode cX9_of 72 = .ok (.aload 4, 2) := by decide +kernel
theorem dX9_of_74 : decode cX9_of 74 = .ok (.getfield 99, 3) := by decide +kernel
theorem dX9_of_77 : decode cX9_of 77 = .ok (.iload_n 2, 1) := by decide +kernel
theorem dX9_of_78 : decode cX9_of 78 = .ok (.iaload, 1) := by decide +kernel
theorem dX9_of_79 : decode cX9_of 79 = .ok (.ireturn, 1) := by decide +kernel
theorem dX9_of_80 : decode cX9_of 80 = .ok (.aload 4, 2) := by decide +kernel
theorem dX9_of_82 : decode cX9_of 82 = .ok (.getfield 102, 3) := by decide +kernel
theorem dX9_of_85 : decode cX9_of 85 = .ok (.iload_n 2, 1) := by decide +kernel
theorem dX9_of_86 : decode cX9_of 86 = .ok (.iaload, 1) := by decide +kernel
theorem dX9_of_87 : decode cX9_of 87 = .ok (.ireturn, 1) := by decide +kernel
theorem dX9_of_88 : decode cX9_of 88 = .ok (.iconst (-1), 1) := by decide +kernel
theorem dX9_of_89 : decode cX9_of 89 = .ok (.ireturn, 1) := by decide +kernel
theorem dX9_feed_0 : decode cX9_feed 0 = .ok (.aload_n 0, 1) := by decide +kernel
theorem dX9_feed_1 : decode cX9_feed 1 = .ok (.getfield 105, 3) := by decide +kernel
theorem dX9_feed_4 : decode cX9_feed 4 = .ok (.bipush 20, 2) := by decide +kernel
theorem dX9_feed_6 : decode cX9_feed 6 = .ok (.iadd, 1) := by decide +kernel
theorem dX9_feed_7 : decode cX9_feed 7 = .ok (.sipush 500, 3) := by decide +kernel
theorem dX9_feed_10 : decode cX9_feed 10 = .ok (.if_icmp .le 5, 3) := by decide +kernel
theorem dX9_feed_13 : decode cX9_feed 13 = .ok (.iconst (-1), 1) := by decide +kernel
theorem dX9_feed_14 : decode cX9_feed 14 = .ok (.ireturn, 1) := by decide +kernel
theorem dX9_feed_15 : decode cX9_feed 15 = .ok (.aload_n 0, 1) := by decide +kernel
theorem dX9_feed_16 : decode cX9_feed 16 = .ok (.iload_n 1, 1) := by decide +kernel
theorem dX9_feed_17 : decode cX9_feed 17 = .ok (.invokevirtual 108, 3) := by decide +kernel
theorem dX9_feed_20 : decode cX9_feed 20 = .ok (.aload_n 0, 1) := by decide +kernel
theorem dX9_feed_21 : decode cX9_feed 21 = .ok (.iload_n 2, 1) := by decide +kernel
theorem dX9_feed_22 : decode cX9_feed 22 = .ok (.invokevirtual 108, 3) := by decide +kernel
theorem dX9_feed_25 : decode cX9_feed 25 = .ok (.aload_n 0, 1) := by decide +kernel
theorem dX9_feed_26 : decode cX9_feed 26 = .ok (.iload_n 3, 1) := by decide +kernel
theorem dX9_feed_27 : decode cX9_feed 27 = .ok (.invokevirtual 108, 3) := by decide +kernel
theorem dX9_feed_30 : decode cX9_feed 30 = .ok (.aload_n 0, 1) := by decide +kernel
theorem dX9_feed_31 : decode cX9_feed 31 = .ok (.iload 4, 2) := by decide +kernel
theorem dX9_feed_33 : decode cX9_feed 33 = .ok (.invokevirtual 108, 3) := by decide +kernel
theorem dX9_feed_36 : decode cX9_feed 36 = .ok (.aload_n 0, 1) := by decide +kernel
theorem dX9_feed_37 : decode cX9_feed 37 = .ok (.iload 5, 2) := by decide +kernel
theorem dX9_feed_39 : decode cX9_feed 39 = .ok (.invokevirtual 108, 3) := by decide +kernel
theorem dX9_feed_42 : decode cX9_feed 42 = .ok (.aload_n 0, 1) := by decide +kernel
theorem dX9_feed_43 : decode cX9_feed 43 = .ok (.getfield 105, 3) := by decide +kernel
theorem dX9_feed_46 : decode cX9_feed 46 = .ok (.ireturn, 1) := by decide +kernel
theorem dX9_end_0 : decode cX9_end 0 = .ok (.iload_n 1, 1) := by decide +kernel
theorem dX9_end_1 : decode cX9_end 1 = .ok (.ifCond .lt 11, 3) := by decide +kernel
theorem dX9_end_4 : decode cX9_end 4 = .ok (.iload_n 1, 1) := by decide +kernel
theorem dX9_end_5 : decode cX9_end 5 = .ok (.aload_n 0, 1) := by decide +kernel
theorem dX9_end_6 : decode cX9_end 6 = .ok (.getfield 105, 3) := by decide +kernel
theorem dX9_end_9 : decode cX9_end 9 = .ok (.if_icmp .le 5, 3) := by decide +kernel
theorem dX9_end_12 : decode cX9_end 12 = .ok (.iconst 0, 1) := by decide +kernel
theorem dX9_end_13 : decode cX9_end 13 = .ok (.ireturn, 1) := by decide +kernel
theorem dX9_end_14 : decode cX9_end 14 = .ok (.aload_n 0, 1) := by decide +kernel
theorem dX9_end_15 : decode cX9_end 15 = .ok (.iload_n 1, 1) := by decide +kernel
theorem dX9_end_16 : decode cX9_end 16 = .ok (.putfield 105, 3) := by decide +kernel
theorem dX9_end_19 : decode cX9_end 19 = .ok (.iconst 1, 1) := by decide +kernel
theorem dX9_end_20 : decode cX9_end 20 = .ok (.ireturn, 1) := by decide +kernel
theorem dX9_text_0 : decode cX9_text 0 = .ok (.aload_n 0, 1) := by decide +kernel
theorem dX9_text_1 : decode cX9_text 1 = .ok (.getfield 105, 3) := by decide +kernel
theorem dX9_text_4 : decode cX9_text 4 = .ok (.istore_n 3, 1) := by decide +kernel
theorem dX9_text_5 : decode cX9_text 5 = .ok (.aload_n 0, 1) := by decide +kernel
theorem dX9_text_6 : decode cX9_text 6 = .ok (.iconst 0, 1) := by decide +kernel
theorem dX9_text_7 : decode cX9_text 7 = .ok (.putfield 105, 3) := by decide +kernel
theorem dX9_text_10 : decode cX9_text 10 = .ok (.aload_n 0, 1) := by decide +kernel
theorem dX9_text_11 : decode cX9_text 11 = .ok (.getfield 12, 3) := by decide +kernel
theorem dX9_text_14 : decode cX9_text 14 = .ok (.iconst 0, 1) := by decide +kernel
theorem dX9_text_15 : decode cX9_text 15 = .ok (.putfield 111, 3) := by decide +kernel
theorem dX9_text_18 : decode cX9_text 18 = .ok (.aload_n 0, 1) := by decide +kernel
theorem dX9_text_19 : decode cX9_text 19 = .ok (.getfield 12, 3) := by decide +kernel
theorem dX9_text_22 : decode cX9_text 22 = .ok (.iconst (-1), 1) := by decide +kernel
theorem dX9_text_23 : decode cX9_text 23 = .ok (.putfield 114, 3) := by decide +kernel
theorem dX9_text_26 : decode cX9_text 26 = .ok (.aload_n 0, 1) := by decide +kernel
theorem dX9_text_27 : decode cX9_text 27 = .ok (.iload_n 1, 1) := by decide +kernel
theorem dX9_text_28 : decode cX9_text 28 = .ok (.iload_n 2, 1) := by decide +kernel
theorem dX9_text_29 : decode cX9_text 29 = .ok (.invokevirtual 117, 3) := by decide +kernel
theorem dX9_text_32 : decode cX9_text 32 = .ok (.astore 4, 2) := by decide +kernel
theorem dX9_text_34 : decode cX9_text 34 = .ok (.aload 4, 2) := by decide +kernel
theorem dX9_text_36 : decode cX9_text 36 = .ok (.ifnonnull 5, 3) := by decide +kernel
theorem dX9_text_39 : decode cX9_text 39 = .ok (.iconst (-1), 1) := by decide +kernel
theorem dX9_text_40 : decode cX9_text 40 = .ok (.ireturn, 1) := by decide +kernel
theorem dX9_text_41 : decode cX9_text 41 = .ok (.aload_n 0, 1) := by decide +kernel
theorem dX9_text_42 : decode cX9_text 42 = .ok (.getfield 23, 3) := by decide +kernel
theorem dX9_text_45 : decode cX9_text 45 = .ok (.aload_n 0, 1) := by decide +kernel
theorem dX9_text_46 : decode cX9_text 46 = .ok (.getfield 16, 3) := by decide +kernel
theorem dX9_text_49 : decode cX9_text 49 = .ok (.iload_n 3, 1) := by decide +kernel
theorem dX9_text_50 : decode cX9_text 50 = .ok (.iload_n 1, 1) := by decide +kernel
theorem dX9_text_51 : decode cX9_text 51 = .ok (.ifCond .ne 7, 3) := by decide +kernel
theorem dX9_text_54 : decode cX9_text 54 = .ok (.iconst 1, 1) := by decide +kernel
theorem dX9_text_55 : decode cX9_text 55 = .ok (.goto 4, 3) := by decide +kernel
theorem dX9_text_58 : decode cX9_text 58 = .ok (.iconst 0, 1) := by decide +kernel
theorem dX9_text_59 : decode cX9_text 59 = .ok (.invokevirtual 121, 3) := by decide +kernel
theorem dX9_text_62 : decode cX9_text 62 = .ok (.iconst 0, 1) := by decide +kernel
theorem dX9_text_63 : decode cX9_text 63 = .ok (.istore 5, 2) := by decide +kernel
theorem dX9_text_65 : decode cX9_text 65 = .ok (.iload 5, 2) := by decide +kernel
theorem dX9_text_67 : decode cX9_text 67 = .ok (.bipush 16, 2) := by decide +kernel
theorem dX9_text_69 : decode cX9_text 69 = .ok (.if_icmp .gt 27, 3) := by decide +kernel
theorem dX9_text_72 : decode cX9_text 72 = .ok (.aload_n 0, 1) := by decide +kernel
theorem dX9_text_73 : decode cX9_text 73 = .ok (.getfield 23, 3) := by decide +kernel
theorem dX9_text_76 : decode cX9_text 76 = .ok (.invokevirtual 125, 3) := by decide +kernel
theorem dX9_text_79 : decode cX9_text 79 = .ok (.ifCond .eq 17, 3) := by decide +kernel
theorem dX9_text_82 : decode cX9_text 82 = .ok (.aload_n 0, 1) := by decide +kernel
theorem dX9_text_83 : decode cX9_text 83 = .ok (.getfield 23, 3) := by decide +kernel
theorem dX9_text_86 : decode cX9_text 86 = .ok (.invokevirtual 129, 3) := by decide +kernel
theorem dX9_text_89 : decode cX9_text 89 = .ok (.pop, 1) := by decide +kernel
theorem dX9_text_90 : decode cX9_text 90 = .ok (.iinc 5 1, 3) := by decide +kernel
theorem dX9_text_93 : decode cX9_text 93 = .ok (.goto (-28), 3) := by decide +kernel
theorem dX9_text_96 : decode cX9_text 96 = .ok (.aload_n 0, 1) := by decide +kernel
theorem dX9_text_97 : decode cX9_text 97 = .ok (.getfield 23, 3) := by decide +kernel
theorem dX9_text_100 : decode cX9_text 100 = .ok (.getfield 132, 3) := by decide +kernel
theorem dX9_text_103 : decode cX9_text 103 = .ok (.ifCond .eq 33, 3) := by decide +kernel
theorem dX9_text_106 : decode cX9_text 106 = .ok (.aload_n 0, 1) := by decide +kernel
theorem dX9_text_107 : decode cX9_text 107 = .ok (.getfield 12, 3) := by decide +kernel
theorem dX9_text_110 : decode cX9_text 110 = .ok (.aload_n 0, 1) := by decide +kernel
theorem dX9_text_111 : decode cX9_text 111 = .ok (.getfield 23, 3) := by decide +kernel
theorem dX9_text_114 : decode cX9_text 114 = .ok (.getfield 132, 3) := by decide +kernel
theorem dX9_text_117 : decode cX9_text 117 = .ok (.putfield 111, 3) := by decide +kernel
theorem dX9_text_120 : decode cX9_text 120 = .ok (.aload_n 0, 1) := by decide +kernel
theorem dX9_text_121 : decode cX9_text 121 = .ok (.getfield 12, 3) := by decide +kernel
theorem dX9_text_124 : decode cX9_text 124 = .ok (.aload_n 0, 1) := by decide +kernel
theorem dX9_text_125 : decode cX9_text 125 = .ok (.getfield 23, 3) := by decide +kernel
theorem dX9_text_128 : decode cX9_text 128 = .ok (.getfield 133, 3) := by decide +kernel
theorem dX9_text_131 : decode cX9_text 131 = .ok (.putfield 114, 3) := by decide +kernel
theorem dX9_text_134 : decode cX9_text 134 = .ok (.iconst (-1), 1) := by decide +kernel
theorem dX9_text_135 : decode cX9_text 135 = .ok (.ireturn, 1) := by decide +kernel
theorem dX9_text_136 : decode cX9_text 136 = .ok (.aload 4, 2) := by decide +kernel
theorem dX9_text_138 : decode cX9_text 138 = .ok (.aload_n 0, 1) := by decide +kernel
theorem dX9_text_139 : decode cX9_text 139 = .ok (.getfield 23, 3) := by decide +kernel
theorem dX9_text_142 : decode cX9_text 142 = .ok (.getfield 134, 3) := by decide +kernel
theorem dX9_text_145 : decode cX9_text 145 = .ok (.invokevirtual 138, 3) := by decide +kernel
theorem dX9_text_148 : decode cX9_text 148 = .ok (.aload 4, 2) := by decide +kernel
theorem dX9_text_150 : decode cX9_text 150 = .ok (.getfield 144, 3) := by decide +kernel
theorem dX9_text_153 : decode cX9_text 153 = .ok (.ireturn, 1) := by decide +kernel
theorem dX9_fault_0 : decode cX9_fault 0 = .ok (.iload_n 1, 1) := by decide +kernel
theorem dX9_fault_1 : decode cX9_fault 1 = .ok (.lookupswitch 43 #[(0, 27), (1, 35)], 27) := by decide +kernel
theorem dX9_fault_28 : decode cX9_fault 28 = .ok (.aload_n 0, 1) := by decide +kernel
theorem dX9_fault_29 : decode cX9_fault 29 = .ok (.getfield 12, 3) := by decide +kernel
theorem dX9_fault_32 : decode cX9_fault 32 = .ok (.getfield 111, 3) := by decide +kernel
theorem dX9_fault_35 : decode cX9_fault 35 = .ok (.ireturn, 1) := by decide +kernel
theorem dX9_fault_36 : decode cX9_fault 36 = .ok (.aload_n 0, 1) := by decide +kernel
theorem dX9_fault_37 : decode cX9_fault 37 = .ok (.getfield 12, 3) := by decide +kernel
theorem dX9_fault_40 : decode cX9_fault 40 = .ok (.getfield 114, 3) := by decide +kernel
theorem dX9_fault_43 : decode cX9_fault 43 = .ok (.ireturn, 1) := by decide +kernel
theorem dX9_fault_44 : decode cX9_fault 44 = .ok (.iconst (-1), 1) := by decide +kernel
theorem dX9_fault_45 : decode cX9_fault 45 = .ok (.ireturn, 1) := by decide +kernel
theorem dX9_force_0 : decode cX9_force 0 = .ok (.iload_n 1, 1) := by decide +kernel
theorem dX9_force_1 : decode cX9_force 1 = .ok (.iconst 0, 1) := by decide +kernel
theorem dX9_force_2 : decode cX9_force 2 = .ok (.iconst 1, 1) := by decide +kernel
theorem dX9_force_3 : decode cX9_force 3 = .ok (.invokestatic 89, 3) := by decide +kernel
theorem dX9_force_6 : decode cX9_force 6 = .ok (.ifCond .ne 5, 3) := by decide +kernel
theorem dX9_force_9 : decode cX9_force 9 = .ok (.iconst (-1), 1) := by decide +kernel
theorem dX9_force_10 : decode cX9_force 10 = .ok (.ireturn, 1) := by decide +kernel
theorem dX9_force_11 : decode cX9_force 11 = .ok (.aload_n 0, 1) := by decide +kernel
theorem dX9_force_12 : decode cX9_force 12 = .ok (.getfield 12, 3) := by decide +kernel
theorem dX9_force_15 : decode cX9_force 15 = .ok (.getfield 147, 3) := by decide +kernel
theorem dX9_force_18 : decode cX9_force 18 = .ok (.istore_n 2, 1) := by decide +kernel
theorem dX9_force_19 : decode cX9_force 19 = .ok (.aload_n 0, 1) := by decide +kernel
theorem dX9_force_20 : decode cX9_force 20 = .ok (.getfield 12, 3) := by decide +kernel
theorem dX9_force_23 : decode cX9_force 23 = .ok (.iload_n 1, 1) := by decide +kernel
theorem dX9_force_24 : decode cX9_force 24 = .ok (.putfield 147, 3) := by decide +kernel
theorem dX9_force_27 : decode cX9_force 27 = .ok (.iload_n 2, 1) := by decide +kernel
theorem dX9_force_28 : decode cX9_force 28 = .ok (.ireturn, 1) := by decide +kernel
theorem dX9_tells_0 : decode cX9_tells 0 = .ok (.aload_n 0, 1) := by decide +kernel
theorem dX9_tells_1 : decode cX9_tells 1 = .ok (.iload 4, 2) := by decide +kernel
theorem dX9_tells_3 : decode cX9_tells 3 = .ok (.invokevirtual 78, 3) := by decide +kernel
theorem dX9_tells_6 : decode cX9_tells 6 = .ok (.astore 6, 2) := by decide +kernel
theorem dX9_tells_8 : decode cX9_tells 8 = .ok (.aload 6, 2) := by decide +kernel
theorem dX9_tells_10 : decode cX9_tells 10 = .ok (.ifnull 38, 3) := by decide +kernel
theorem dX9_tells_13 : decode cX9_tells 13 = .ok (.aload 6, 2) := by decide +kernel
theorem dX9_tells_15 : decode cX9_tells 15 = .ok (.iload 5, 2) := by decide +kernel
theorem dX9_tells_17 : decode cX9_tells 17 = .ok (.invokevirtual 82, 3) := by decide +kernel
theorem dX9_tells_20 : decode cX9_tells 20 = .ok (.ifCond .eq 28, 3) := by decide +kernel
theorem dX9_tells_23 : decode cX9_tells 23 = .ok (.iload_n 1, 1) := by decide +kernel
theorem dX9_tells_24 : decode cX9_tells 24 = .ok (.iconst 0, 1) := by decide +kernel
theorem dX9_tells_25 : decode cX9_tells 25 = .ok (.iconst 1, 1) := by decide +kernel
theorem dX9_tells_26 : decode cX9_tells 26 = .ok (.invokestatic 89, 3) := by decide +kernel
theorem dX9_tells_29 : decode cX9_tells 29 = .ok (.ifCond .eq 19, 3) := by decide +kernel
theorem dX9_tells_32 : decode cX9_tells 32 = .ok (.iload_n 2, 1) := by decide +kernel
theorem dX9_tells_33 : decode cX9_tells 33 = .ok (.iconst 0, 1) := by decide +kernel
theorem dX9_tells_34 : decode cX9_tells 34 = .ok (.iconst 2, 1) := by decide +kernel
theorem dX9_tells_35 : decode cX9_tells 35 = .ok (.invokestatic 89, 3) := by decide +kernel
theorem dX9_tells_38 : decode cX9_tells 38 = .ok (.ifCond .eq 10, 3) := by decide +kernel
theorem dX9_tells_41 : decode cX9_tells 41 = .ok (.iload_n 3, 1) := by decide +kernel
theorem dX9_tells_42 : decode cX9_tells 42 = .ok (.invokestatic 150, 3) := by decide +kernel
theorem dX9_tells_45 : decode cX9_tells 45 = .ok (.ifCond .ne 6, 3) := by decide +kernel
theorem dX9_tells_48 : decode cX9_tells 48 = .ok (.ldc 153, 2) := by decide +kernel
theorem dX9_tells_50 : decode cX9_tells 50 = .ok (.ireturn, 1) := by decide +kernel
theorem dX9_tells_51 : decode cX9_tells 51 = .ok (.aload_n 0, 1) := by decide +kernel
theorem dX9_tells_52 : decode cX9_tells 52 = .ok (.getfield 30, 3) := by decide +kernel
theorem dX9_tells_55 : decode cX9_tells 55 = .ok (.aload 6, 2) := by decide +kernel
theorem dX9_tells_57 : decode cX9_tells 57 = .ok (.iload 5, 2) := by decide +kernel
theorem dX9_tells_59 : decode cX9_tells 59 = .ok (.aload 6, 2) := by decide +kernel
theorem dX9_tells_61 : decode cX9_tells 61 = .ok (.getfield 93, 3) := by decide +kernel
theorem dX9_tells_64 : decode cX9_tells 64 = .ok (.iload 5, 2) := by decide +kernel
theorem dX9_tells_66 : decode cX9_tells 66 = .ok (.iaload, 1) := by decide +kernel
theorem dX9_tells_67 : decode cX9_tells 67 = .ok (.aload 6, 2) := by decide +kernel
theorem dX9_tells_69 : decode cX9_tells 69 = .ok (.getfield 96, 3) := by decide +kernel
theorem dX9_tells_72 : decode cX9_tells 72 = .ok (.iload 5, 2) := by decide +kernel
theorem dX9_tells_74 : decode cX9_tells 74 = .ok (.iaload, 1) := by decide +kernel
theorem dX9_tells_75 : decode cX9_tells 75 = .ok (.aload 6, 2) := by decide +kernel
theorem dX9_tells_77 : decode cX9_tells 77 = .ok (.getfield 102, 3) := by decide +kernel
theorem dX9_tells_80 : decode cX9_tells 80 = .ok (.iload 5, 2) := by decide +kernel
theorem dX9_tells_82 : decode cX9_tells 82 = .ok (.iaload, 1) := by decide +kernel
theorem dX9_tells_83 : decode cX9_tells 83 = .ok (.invokevirtual 154, 3) := by decide +kernel
theorem dX9_tells_86 : decode cX9_tells 86 = .ok (.aload_n 0, 1) := by decide +kernel
theorem dX9_tells_87 : decode cX9_tells 87 = .ok (.getfield 30, 3) := by decide +kernel
theorem dX9_tells_90 : decode cX9_tells 90 = .ok (.aload_n 0, 1) := by decide +kernel
theorem dX9_tells_91 : decode cX9_tells 91 = .ok (.getfield 12, 3) := by decide +kernel
theorem dX9_tells_94 : decode cX9_tells 94 = .ok (.getfield 158, 3) := by decide +kernel
theorem dX9_tells_97 : decode cX9_tells 97 = .ok (.iload_n 1, 1) := by decide +kernel
theorem dX9_tells_98 : decode cX9_tells 98 = .ok (.aaload, 1) := by decide +kernel
theorem dX9_tells_99 : decode cX9_tells 99 = .ok (.iload_n 2, 1) := by decide +kernel
theorem dX9_tells_100 : decode cX9_tells 100 = .ok (.iload_n 3, 1) := by decide +kernel
theorem dX9_tells_101 : decode cX9_tells 101 = .ok (.invokevirtual 162, 3) := by decide +kernel
theorem dX9_tells_104 : decode cX9_tells 104 = .ok (.ireturn, 1) := by decide +kernel
theorem dX9_tone_0 : decode cX9_tone 0 = .ok (.aload_n 0, 1) := by decide +kernel
theorem dX9_tone_1 : decode cX9_tone 1 = .ok (.iload_n 1, 1) := by decide +kernel
theorem dX9_tone_2 : decode cX9_tone 2 = .ok (.invokevirtual 78, 3) := by decide +kernel
theorem dX9_tone_5 : decode cX9_tone 5 = .ok (.astore_n 3, 1) := by decide +kernel
theorem dX9_tone_6 : decode cX9_tone 6 = .ok (.aload_n 3, 1) := by decide +kernel
theorem dX9_tone_7 : decode cX9_tone 7 = .ok (.ifnull 10, 3) := by decide +kernel
theorem dX9_tone_10 : decode cX9_tone 10 = .ok (.iload_n 2, 1) := by decide +kernel
theorem dX9_tone_11 : decode cX9_tone 11 = .ok (.invokestatic 150, 3) := by decide +kernel
theorem dX9_tone_14 : decode cX9_tone 14 = .ok (.ifCond .ne 5, 3) := by decide +kernel
theorem dX9_tone_17 : decode cX9_tone 17 = .ok (.iconst (-1), 1) := by decide +kernel
theorem dX9_tone_18 : decode cX9_tone 18 = .ok (.ireturn, 1) := by decide +kernel
theorem dX9_tone_19 : decode cX9_tone 19 = .ok (.aload_n 0, 1) := by decide +kernel
theorem dX9_tone_20 : decode cX9_tone 20 = .ok (.aload_n 3, 1) := by decide +kernel
theorem dX9_tone_21 : decode cX9_tone 21 = .ok (.iload_n 2, 1) := by decide +kernel
theorem dX9_tone_22 : decode cX9_tone 22 = .ok (.invokevirtual 166, 3) := by decide +kernel
theorem dX9_tone_25 : decode cX9_tone 25 = .ok (.ireturn, 1) := by decide +kernel
theorem dX9_shave_0 : decode cX9_shave 0 = .ok (.aload_n 0, 1) := by decide +kernel
theorem dX9_shave_1 : decode cX9_shave 1 = .ok (.iload_n 1, 1) := by decide +kernel
theorem dX9_shave_2 : decode cX9_shave 2 = .ok (.invokevirtual 78, 3) := by decide +kernel
theorem dX9_shave_5 : decode cX9_shave 5 = .ok (.astore 4, 2) := by decide +kernel
theorem dX9_shave_7 : decode cX9_shave 7 = .ok (.aload 4, 2) := by decide +kernel
theorem dX9_shave_9 : decode cX9_shave 9 = .ok (.ifnonnull 5, 3) := by decide +kernel
theorem dX9_shave_12 : decode cX9_shave 12 = .ok (.iconst (-1), 1) := by decide +kernel
theorem dX9_shave_13 : decode cX9_shave 13 = .ok (.ireturn, 1) := by decide +kernel
theorem dX9_shave_14 : decode cX9_shave 14 = .ok (.aload_n 0, 1) := by decide +kernel
theorem dX9_shave_15 : decode cX9_shave 15 = .ok (.aload 4, 2) := by decide +kernel
theorem dX9_shave_17 : decode cX9_shave 17 = .ok (.iload_n 2, 1) := by decide +kernel
theorem dX9_shave_18 : decode cX9_shave 18 = .ok (.iload_n 3, 1) := by decide +kernel
theorem dX9_shave_19 : decode cX9_shave 19 = .ok (.invokevirtual 170, 3) := by decide +kernel
theorem dX9_shave_22 : decode cX9_shave 22 = .ok (.ireturn, 1) := by decide +kernel
theorem dX9_pass_0 : decode cX9_pass 0 = .ok (.aload_n 0, 1) := by decide +kernel
theorem dX9_pass_1 : decode cX9_pass 1 = .ok (.iload_n 1, 1) := by decide +kernel
theorem dX9_pass_2 : decode cX9_pass 2 = .ok (.invokevirtual 78, 3) := by decide +kernel
theorem dX9_pass_5 : decode cX9_pass 5 = .ok (.astore 4, 2) := by decide +kernel
theorem dX9_pass_7 : decode cX9_pass 7 = .ok (.aload 4, 2) := by decide +kernel
theorem dX9_pass_9 : decode cX9_pass 9 = .ok (.ifnull 16, 3) := by decide +kernel
theorem dX9_pass_12 : decode cX9_pass 12 = .ok (.iload_n 2, 1) := by decide +kernel
theorem dX9_pass_13 : decode cX9_pass 13 = .ok (.iconst 1, 1) := by decide +kernel
theorem dX9_pass_14 : decode cX9_pass 14 = .ok (.aload 4, 2) := by decide +kernel
theorem dX9_pass_16 : decode cX9_pass 16 = .ok (.getfield 86, 3) := by decide +kernel
theorem dX9_pass_19 : decode cX9_pass 19 = .ok (.invokestatic 89, 3) := by decide +kernel
theorem dX9_pass_22 : decode cX9_pass 22 = .ok (.ifCond .ne 5, 3) := by decide +kernel
theorem dX9_pass_25 : decode cX9_pass 25 = .ok (.iconst (-1), 1) := by decide +kernel
theorem dX9_pass_26 : decode cX9_pass 26 = .ok (.ireturn, 1) := by decide +kernel
theorem dX9_pass_27 : decode cX9_pass 27 = .ok (.iload_n 3, 1) := by decide +kernel
theorem dX9_pass_28 : decode cX9_pass 28 = .ok (.lookupswitch 48 #[(0, 28), (1, 38)], 28) := by decide +kernel
theorem dX9_pass_56 : decode cX9_pass 56 = .ok (.aload 4, 2) := by decide +kernel
theorem dX9_pass_58 : decode cX9_pass 58 = .ok (.getfield 174, 3) := by decide +kernel
theorem dX9_pass_61 : decode cX9_pass 61 = .ok (.iload_n 2, 1) := by decide +kernel
theorem dX9_pass_62 : decode cX9_pass 62 = .ok (.iconst 1, 1) := by decide +kernel
theorem dX9_pass_63 : decode cX9_pass 63 = .ok (.isub, 1) := by decide +kernel
theorem dX9_pass_64 : decode cX9_pass 64 = .ok (.iaload, 1) := by decide +kernel
theorem dX9_pass_65 : decode cX9_pass 65 = .ok (.ireturn, 1) := by decide +kernel
theorem dX9_pass_66 : decode cX9_pass 66 = .ok (.aload 4, 2) := by decide +kernel
theorem dX9_pass_68 : decode cX9_pass 68 = .ok (.getfield 177, 3) := by decide +kernel
theorem dX9_pass_71 : decode cX9_pass 71 = .ok (.iload_n 2, 1) := by decide +kernel
theorem dX9_pass_72 : decode cX9_pass 72 = .ok (.iconst 1, 1) := by decide +kernel
theorem dX9_pass_73 : decode cX9_pass 73 = .ok (.isub, 1) := by decide +kernel
theorem dX9_pass_74 : decode cX9_pass 74 = .ok (.iaload, 1) := by decide +kernel
theorem dX9_pass_75 : decode cX9_pass 75 = .ok (.ireturn, 1) := by decide +kernel
theorem dX9_pass_76 : decode cX9_pass 76 = .ok (.iconst (-1), 1) := by decide +kernel
theorem dX9_pass_77 : decode cX9_pass 77 = .ok (.ireturn, 1) := by decide +kernel
theorem dX9_goal_0 : decode cX9_goal 0 = .ok (.aload_n 0, 1) := by decide +kernel
theorem dX9_goal_1 : decode cX9_goal 1 = .ok (.iload_n 1, 1) := by decide +kernel
theorem dX9_goal_2 : decode cX9_goal 2 = .ok (.invokevirtual 78, 3) := by decide +kernel
theorem dX9_goal_5 : decode cX9_goal 5 = .ok (.astore 4, 2) := by decide +kernel
theorem dX9_goal_7 : decode cX9_goal 7 = .ok (.aload 4, 2) := by decide +kernel
theorem dX9_goal_9 : decode cX9_goal 9 = .ok (.ifnull 20, 3) := by decide +kernel
theorem dX9_goal_12 : decode cX9_goal 12 = .ok (.iload_n 2, 1) := by decide +kernel
theorem dX9_goal_13 : decode cX9_goal 13 = .ok (.invokestatic 150, 3) := by decide +kernel
theorem dX9_goal_16 : decode cX9_goal 16 = .ok (.ifCond .eq 13, 3) := by decide +kernel
theorem dX9_goal_19 : decode cX9_goal 19 = .ok (.iload_n 3, 1) := by decide +kernel
theorem dX9_goal_20 : decode cX9_goal 20 = .ok (.iconst 0, 1) := by decide +kernel
theorem dX9_goal_21 : decode cX9_goal 21 = .ok (.ldc 180, 2) := by decide +kernel
theorem dX9_goal_23 : decode cX9_goal 23 = .ok (.invokestatic 89, 3) := by decide +kernel
theorem dX9_goal_26 : decode cX9_goal 26 = .ok (.ifCond .ne 5, 3) := by decide +kernel
theorem dX9_goal_29 : decode cX9_goal 29 = .ok (.iconst 0, 1) := by decide +kernel
theorem dX9_goal_30 : decode cX9_goal 30 = .ok (.ireturn, 1) := by decide +kernel
theorem dX9_goal_31 : decode cX9_goal 31 = .ok (.aload 4, 2) := by decide +kernel
theorem dX9_goal_33 : decode cX9_goal 33 = .ok (.getfield 181, 3) := by decide +kernel
theorem dX9_goal_36 : decode cX9_goal 36 = .ok (.iload_n 2, 1) := by decide +kernel
theorem dX9_goal_37 : decode cX9_goal 37 = .ok (.iload_n 3, 1) := by decide +kernel
theorem dX9_goal_38 : decode cX9_goal 38 = .ok (.iastore, 1) := by decide +kernel
theorem dX9_goal_39 : decode cX9_goal 39 = .ok (.iconst 1, 1) := by decide +kernel
theorem dX9_goal_40 : decode cX9_goal 40 = .ok (.ireturn, 1) := by decide +kernel
theorem dX9_slack_0 : decode cX9_slack 0 = .ok (.iload_n 1, 1) := by decide +kernel
theorem dX9_slack_1 : decode cX9_slack 1 = .ok (.iconst 0, 1) := by decide +kernel
theorem dX9_slack_2 : decode cX9_slack 2 = .ok (.sipush 9999, 3) := by decide +kernel
theorem dX9_slack_5 : decode cX9_slack 5 = .ok (.invokestatic 89, 3) := by decide +kernel
theorem dX9_slack_8 : decode cX9_slack 8 = .ok (.ifCond .ne 5, 3) := by decide +kernel
theorem dX9_slack_11 : decode cX9_slack 11 = .ok (.iconst 0, 1) := by decide +kernel
theorem dX9_slack_12 : decode cX9_slack 12 = .ok (.ireturn, 1) := by decide +kernel
theorem dX9_slack_13 : decode cX9_slack 13 = .ok (.aload_n 0, 1) := by decide +kernel
theorem dX9_slack_14 : decode cX9_slack 14 = .ok (.getfield 12, 3) := by decide +kernel
theorem dX9_slack_17 : decode cX9_slack 17 = .ok (.iload_n 1, 1) := by decide +kernel
theorem dX9_slack_18 : decode cX9_slack 18 = .ok (.putfield 184, 3) := by decide +kernel
theorem dX9_slack_21 : decode cX9_slack 21 = .ok (.iconst 1, 1) := by decide +kernel
theorem dX9_slack_22 : decode cX9_slack 22 = .ok (.ireturn, 1) := by decide +kernel
theorem dX9_state_0 : decode cX9_state 0 = .ok (.aload_n 0, 1) := by decide +kernel
theorem dX9_state_1 : decode cX9_state 1 = .ok (.iload_n 1, 1) := by decide +kernel
theorem dX9_state_2 : decode cX9_state 2 = .ok (.invokevirtual 78, 3) := by decide +kernel
theorem dX9_state_5 : decode cX9_state 5 = .ok (.astore_n 3, 1) := by decide +kernel
theorem dX9_state_6 : decode cX9_state 6 = .ok (.aload_n 3, 1) := by decide +kernel
theorem dX9_state_7 : decode cX9_state 7 = .ok (.ifnonnull 6, 3) := by decide +kernel
theorem dX9_state_10 : decode cX9_state 10 = .ok (.bipush (-2), 2) := by decide +kernel
theorem dX9_state_12 : decode cX9_state 12 = .ok (.ireturn, 1) := by decide +kernel
theorem dX9_state_13 : decode cX9_state 13 = .ok (.iload_n 2, 1) := by decide +kernel
theorem dX9_state_14 : decode cX9_state 14 = .ok (.tableswitch 129 0 9 #[54, 59, 64, 78, 92, 97, 104, 111, 118, 123], 54) := by decide +kernel
theorem dX9_state_68 : decode cX9_state 68 = .ok (.aload_n 3, 1) := by decide +kernel
theorem dX9_state_69 : decode cX9_state 69 = .ok (.getfield 187, 3) := by decide +kernel
theorem dX9_state_72 : decode cX9_state 72 = .ok (.ireturn, 1) := by decide +kernel
theorem dX9_state_73 : decode cX9_state 73 = .ok (.aload_n 3, 1) := by decide +kernel
theorem dX9_state_74 : decode cX9_state 74 = .ok (.getfield 86, 3) := by decide +kernel
theorem dX9_state_77 : decode cX9_state 77 = .ok (.ireturn, 1) := by decide +kernel
theorem dX9_state_78 : decode cX9_state 78 = .ok (.aload_n 0, 1) := by decide +kernel
theorem dX9_state_79 : decode cX9_state 79 = .ok (.aload_n 3, 1) := by decide +kernel
theorem dX9_state_80 : decode cX9_state 80 = .ok (.invokevirtual 190, 3) := by decide +kernel
theorem dX9_state_83 : decode cX9_state 83 = .ok (.ifCond .eq 7, 3) := by decide +kernel
theorem dX9_state_86 : decode cX9_state 86 = .ok (.iconst 1, 1) := by decide +kernel
theorem dX9_state_87 : decode cX9_state 87 = .ok (.goto 4, 3) := by decide +kernel
theorem dX9_state_90 : decode cX9_state 90 = .ok (.iconst 0, 1) := by decide +kernel
theorem dX9_state_91 : decode cX9_state 91 = .ok (.ireturn, 1) := by decide +kernel
theorem dX9_state_92 : decode cX9_state 92 = .ok (.aload_n 0, 1) := by decide +kernel
theorem dX9_state_93 : decode cX9_state 93 = .ok (.aload_n 3, 1) := by decide +kernel
theorem dX9_state_94 : decode cX9_state 94 = .ok (.invokevirtual 194, 3) := by decide +kernel
theorem dX9_state_97 : decode cX9_state 97 = .ok (.ifCond .eq 7, 3) := by decide +kernel
theorem dX9_state_100 : decode cX9_state 100 = .ok (.iconst 1, 1) := by decide +kernel
theorem dX9_state_101 : decode cX9_state 101 = .ok (.goto 4, 3) := by decide +kernel
theorem dX9_state_104 : decode cX9_state 104 = .ok (.iconst 0, 1) := by decide +kernel
theorem dX9_state_105 : decode cX9_state 105 = .ok (.ireturn, 1) := by decide +kernel
theorem dX9_state_106 : decode cX9_state 106 = .ok (.aload_n 3, 1) := by decide +kernel
theorem dX9_state_107 : decode cX9_state 107 = .ok (.getfield 197, 3) := by decide +kernel
theorem dX9_state_110 : decode cX9_state 110 = .ok (.ireturn, 1) := by decide +kernel
theorem dX9_state_111 : decode cX9_state 111 = .ok (.aload_n 3, 1) := by decide +kernel
theorem dX9_state_112 : decode cX9_state 112 = .ok (.getfield 181, 3) := by decide +kernel
theorem dX9_state_115 : decode cX9_state 115 = .ok (.iconst 0, 1) := by decide +kernel
theorem dX9_state_116 : decode cX9_state 116 = .ok (.iaload, 1) := by decide +kernel
theorem dX9_state_117 : decode cX9_state 117 = .ok (.ireturn, 1) := by decide +kernel
theorem dX9_state_118 : decode cX9_state 118 = .ok (.aload_n 3, 1) := by decide +kernel
theorem dX9_state_119 : decode cX9_state 119 = .ok (.getfield 181, 3) := by decide +kernel
theorem dX9_state_122 : decode cX9_state 122 = .ok (.iconst 1, 1) := by decide +kernel
theorem dX9_state_123 : decode cX9_state 123 = .ok (.iaload, 1) := by decide +kernel
theorem dX9_state_124 : decode cX9_state 124 = .ok (.ireturn, 1) := by decide +kernel
theorem dX9_state_125 : decode cX9_state 125 = .ok (.aload_n 3, 1) := by decide +kernel
theorem dX9_state_126 : decode cX9_state 126 = .ok (.getfield 181, 3) := by decide +kernel
theorem dX9_state_129 : decode cX9_state 129 = .ok (.iconst 2, 1) := by decide +kernel
theorem dX9_state_130 : decode cX9_state 130 = .ok (.iaload, 1) := by decide +kernel
theorem dX9_state_131 : decode cX9_state 131 = .ok (.ireturn, 1) := by decide +kernel
theorem dX9_state_132 : decode cX9_state 132 = .ok (.aload_n 3, 1) := by decide +kernel
theorem dX9_state_133 : decode cX9_state 133 = .ok (.getfield 200, 3) := by decide +kernel
theorem dX9_state_136 : decode cX9_state 136 = .ok (.ireturn, 1) := by decide +kernel
theorem dX9_state_137 : decode cX9_state 137 = .ok (.aload_n 0, 1) := by decide +kernel
theorem dX9_state_138 : decode cX9_state 138 = .ok (.aload_n 3, 1) := by decide +kernel
theorem dX9_state_139 : decode cX9_state 139 = .ok (.invokevirtual 203, 3) := by decide +kernel
theorem dX9_state_142 : decode cX9_state 142 = .ok (.ireturn, 1) := by decide +kernel
theorem dX9_state_143 : decode cX9_state 143 = .ok (.bipush (-2), 2) := by decide +kernel
theorem dX9_state_145 : decode cX9_state 145 = .ok (.ireturn, 1) := by decide +kernel
theorem dX9_takes_0 : decode cX9_takes 0 = .ok (.aload_n 0, 1) := by decide +kernel
theorem dX9_takes_1 : decode cX9_takes 1 = .ok (.iload_n 1, 1) := by decide +kernel
theorem dX9_takes_2 : decode cX9_takes 2 = .ok (.invokevirtual 78, 3) := by decide +kernel
theorem dX9_takes_5 : decode cX9_takes 5 = .ok (.astore 4, 2) := by decide +kernel
theorem dX9_takes_7 : decode cX9_takes 7 = .ok (.aload 4, 2) := by decide +kernel
theorem dX9_takes_9 : decode cX9_takes 9 = .ok (.ifnull 30, 3) := by decide +kernel
theorem dX9_takes_12 : decode cX9_takes 12 = .ok (.aload 4, 2) := by decide +kernel
theorem dX9_takes_14 : decode cX9_takes 14 = .ok (.iload_n 2, 1) := by decide +kernel
theorem dX9_takes_15 : decode cX9_takes 15 = .ok (.invokevirtual 82, 3) := by decide +kernel
theorem dX9_takes_18 : decode cX9_takes 18 = .ok (.ifCond .eq 21, 3) := by decide +kernel
theorem dX9_takes_21 : decode cX9_takes 21 = .ok (.iload_n 3, 1) := by decide +kernel
theorem dX9_takes_22 : decode cX9_takes 22 = .ok (.invokestatic 150, 3) := by decide +kernel
theorem dX9_takes_25 : decode cX9_takes 25 = .ok (.ifCond .eq 14, 3) := by decide +kernel
theorem dX9_takes_28 : decode cX9_takes 28 = .ok (.aload 4, 2) := by decide +kernel
theorem dX9_takes_30 : decode cX9_takes 30 = .ok (.getfield 93, 3) := by decide +kernel
theorem dX9_takes_33 : decode cX9_takes 33 = .ok (.iload_n 2, 1) := by decide +kernel
theorem dX9_takes_34 : decode cX9_takes 34 = .ok (.iaload, 1) := by decide +kernel
theorem dX9_takes_35 : decode cX9_takes 35 = .ok (.iconst 1, 1) := by decide +kernel
theorem dX9_takes_36 : decode cX9_takes 36 = .ok (.if_icmp .gt 6, 3) := by decide +kernel
theorem dX9_takes_39 : decode cX9_takes 39 = .ok (.ldc 207, 2) := by decide +kernel
theorem dX9_takes_41 : decode cX9_takes 41 = .ok (.ireturn, 1) := by decide +kernel
theorem dX9_takes_42 : decode cX9_takes 42 = .ok (.aload 4, 2) := by decide +kernel
theorem dX9_takes_44 : decode cX9_takes 44 = .ok (.aload_n 0, 1) := by decide +kernel
theorem dX9_takes_45 : decode cX9_takes 45 = .ok (.getfield 61, 3) := by decide +kernel
theorem dX9_takes_48 : decode cX9_takes 48 = .ok (.iload_n 2, 1) := by decide +kernel
theorem dX9_takes_49 : decode cX9_takes 49 = .ok (.invokevirtual 208, 3) := by decide +kernel
theorem dX9_takes_52 : decode cX9_takes 52 = .ok (.aload_n 0, 1) := by decide +kernel
theorem dX9_takes_53 : decode cX9_takes 53 = .ok (.aload 4, 2) := by decide +kernel
theorem dX9_takes_55 : decode cX9_takes 55 = .ok (.iload_n 3, 1) := by decide +kernel
theorem dX9_takes_56 : decode cX9_takes 56 = .ok (.invokevirtual 166, 3) := by decide +kernel
theorem dX9_takes_59 : decode cX9_takes 59 = .ok (.aload_n 0, 1) := by decide +kernel
theorem dX9_takes_60 : decode cX9_takes 60 = .ok (.getfield 30, 3) := by decide +kernel
theorem dX9_takes_63 : decode cX9_takes 63 = .ok (.aload_n 0, 1) := by decide +kernel
theorem dX9_takes_64 : decode cX9_takes 64 = .ok (.getfield 12, 3) := by decide +kernel
theorem dX9_takes_67 : decode cX9_takes 67 = .ok (.invokevirtual 212, 3) := by decide +kernel
theorem dX9_takes_70 : decode cX9_takes 70 = .ok (.iload_n 3, 1) := by decide +kernel
theorem dX9_takes_71 : decode cX9_takes 71 = .ok (.aload 4, 2) := by decide +kernel
theorem dX9_takes_73 : decode cX9_takes 73 = .ok (.aload_n 0, 1) := by decide +kernel
theorem dX9_takes_74 : decode cX9_takes 74 = .ok (.getfield 61, 3) := by decide +kernel
theorem dX9_takes_77 : decode cX9_takes 77 = .ok (.aload 4, 2) := by decide +kernel
theorem dX9_takes_79 : decode cX9_takes 79 = .ok (.getfield 96, 3) := by decide +kernel
theorem dX9_takes_82 : decode cX9_takes 82 = .ok (.aload 4, 2) := by decide +kernel
theorem dX9_takes_84 : decode cX9_takes 84 = .ok (.getfield 102, 3) := by decide +kernel
theorem dX9_takes_87 : decode cX9_takes 87 = .ok (.invokevirtual 216, 3) := by decide +kernel
theorem dX9_takes_90 : decode cX9_takes 90 = .ok (.isub, 1) := by decide +kernel
theorem dX9_takes_91 : decode cX9_takes 91 = .ok (.ireturn, 1) := by decide +kernel
theorem dX9_job_0 : decode cX9_job 0 = .ok (.aload_n 0, 1) := by decide +kernel
theorem dX9_job_1 : decode cX9_job 1 = .ok (.iload_n 2, 1) := by decide +kernel
theorem dX9_job_2 : decode cX9_job 2 = .ok (.invokevirtual 78, 3) := by decide +kernel
theorem dX9_job_5 : decode cX9_job 5 = .ok (.astore_n 3, 1) := by decide +kernel
theorem dX9_job_6 : decode cX9_job 6 = .ok (.aload_n 3, 1) := by decide +kernel
theorem dX9_job_7 : decode cX9_job 7 = .ok (.ifnull 12, 3) := by decide +kernel
end
section
theorem dX9_job_10 : decode cX9_job 10 = .ok (.iload_n 1, 1) := by decide +kernel
theorem dX9_job_11 : decode cX9_job 11 = .ok (.iconst 0, 1) := by decide +kernel
theorem dX9_job_12 : decode cX9_job 12 = .ok (.iconst 3, 1) := by decide +kernel
theorem dX9_job_13 : decode cX9_job 13 = .ok (.invokestatic 89, 3) := by decide +kernel
theorem dX9_job_16 : decode cX9_job 16 = .ok (.ifCond .ne 5, 3) := by decide +kernel
theorem dX9_job_19 : decode cX9_job 19 = .ok (.iconst (-1), 1) := by decide +kernel
theorem dX9_job_20 : decode cX9_job 20 = .ok (.ireturn, 1) := by decide +kernel
theorem dX9_job_21 : decode cX9_job 21 = .ok (.aload_n 3, 1) := by decide +kernel
theorem dX9_job_22 : decode cX9_job 22 = .ok (.getfield 86, 3) := by decide +kernel
theorem dX9_job_25 : decode cX9_job 25 = .ok (.istore 4, 2) := by decide +kernel
theorem dX9_job_27 : decode cX9_job 27 = .ok (.aload_n 0, 1) := by decide +kernel
theorem dX9_job_28 : decode cX9_job 28 = .ok (.getfield 12, 3) := by decide +kernel
theorem dX9_job_31 : decode cX9_job 31 = .ok (.getfield 220, 3) := by decide +kernel
theorem dX9_job_34 : decode cX9_job 34 = .ok (.iload_n 1, 1) := by decide +kernel
theorem dX9_job_35 : decode cX9_job 35 = .ok (.aaload, 1) := by decide +kernel
theorem dX9_job_36 : decode cX9_job 36 = .ok (.astore 5, 2) := by decide +kernel
theorem dX9_job_38 : decode cX9_job 38 = .ok (.iconst 0, 1) := by decide +kernel
theorem dX9_job_39 : decode cX9_job 39 = .ok (.istore 6, 2) := by decide +kernel
theorem dX9_job_41 : decode cX9_job 41 = .ok (.iload 6, 2) := by decide +kernel
theorem dX9_job_43 : decode cX9_job 43 = .ok (.aload 5, 2) := by decide +kernel
theorem dX9_job_45 : decode cX9_job 45 = .ok (.getfield 144, 3) := by decide +kernel
theorem dX9_job_48 : decode cX9_job 48 = .ok (.if_icmp .ge 30, 3) := by decide +kernel
theorem dX9_job_51 : decode cX9_job 51 = .ok (.aload_n 0, 1) := by decide +kernel
theorem dX9_job_52 : decode cX9_job 52 = .ok (.aload 5, 2) := by decide +kernel
theorem dX9_job_54 : decode cX9_job 54 = .ok (.iload 6, 2) := by decide +kernel
theorem dX9_job_56 : decode cX9_job 56 = .ok (.aload_n 3, 1) := by decide +kernel
theorem dX9_job_57 : decode cX9_job 57 = .ok (.invokevirtual 223, 3) := by decide +kernel
theorem dX9_job_60 : decode cX9_job 60 = .ok (.ifCond .eq 12, 3) := by decide +kernel
theorem dX9_job_63 : decode cX9_job 63 = .ok (.aload_n 0, 1) := by decide +kernel
theorem dX9_job_64 : decode cX9_job 64 = .ok (.aload 5, 2) := by decide +kernel
theorem dX9_job_66 : decode cX9_job 66 = .ok (.iload 6, 2) := by decide +kernel
theorem dX9_job_68 : decode cX9_job 68 = .ok (.aload_n 3, 1) := by decide +kernel
theorem dX9_job_69 : decode cX9_job 69 = .ok (.invokevirtual 227, 3) := by decide +kernel
theorem dX9_job_72 : decode cX9_job 72 = .ok (.iinc 6 1, 3) := by decide +kernel
theorem dX9_job_75 : decode cX9_job 75 = .ok (.goto (-34), 3) := by decide +kernel
theorem dX9_job_78 : decode cX9_job 78 = .ok (.aload_n 3, 1) := by decide +kernel
theorem dX9_job_79 : decode cX9_job 79 = .ok (.getfield 86, 3) := by decide +kernel
theorem dX9_job_82 : decode cX9_job 82 = .ok (.iload 4, 2) := by decide +kernel
theorem dX9_job_84 : decode cX9_job 84 = .ok (.isub, 1) := by decide +kernel
theorem dX9_job_85 : decode cX9_job 85 = .ok (.ireturn, 1) := by decide +kernel
theorem dX9_fewest_0 : decode cX9_fewest 0 = .ok (.aload_n 0, 1) := by decide +kernel
theorem dX9_fewest_1 : decode cX9_fewest 1 = .ok (.iload_n 1, 1) := by decide +kernel
theorem dX9_fewest_2 : decode cX9_fewest 2 = .ok (.invokevirtual 78, 3) := by decide +kernel
theorem dX9_fewest_5 : decode cX9_fewest 5 = .ok (.astore_n 3, 1) := by decide +kernel
theorem dX9_fewest_6 : decode cX9_fewest 6 = .ok (.aload_n 3, 1) := by decide +kernel
theorem dX9_fewest_7 : decode cX9_fewest 7 = .ok (.ifnull 21, 3) := by decide +kernel
theorem dX9_fewest_10 : decode cX9_fewest 10 = .ok (.aload_n 3, 1) := by decide +kernel
theorem dX9_fewest_11 : decode cX9_fewest 11 = .ok (.getfield 187, 3) := by decide +kernel
theorem dX9_fewest_14 : decode cX9_fewest 14 = .ok (.bipush 8, 2) := by decide +kernel
theorem dX9_fewest_16 : decode cX9_fewest 16 = .ok (.if_icmp .gt 12, 3) := by decide +kernel
theorem dX9_fewest_19 : decode cX9_fewest 19 = .ok (.iload_n 2, 1) := by decide +kernel
theorem dX9_fewest_20 : decode cX9_fewest 20 = .ok (.iconst 0, 1) := by decide +kernel
theorem dX9_fewest_21 : decode cX9_fewest 21 = .ok (.iconst 5, 1) := by decide +kernel
theorem dX9_fewest_22 : decode cX9_fewest 22 = .ok (.invokestatic 89, 3) := by decide +kernel
theorem dX9_fewest_25 : decode cX9_fewest 25 = .ok (.ifCond .ne 5, 3) := by decide +kernel
theorem dX9_fewest_28 : decode cX9_fewest 28 = .ok (.iconst (-1), 1) := by decide +kernel
theorem dX9_fewest_29 : decode cX9_fewest 29 = .ok (.ireturn, 1) := by decide +kernel
theorem dX9_fewest_30 : decode cX9_fewest 30 = .ok (.aload_n 0, 1) := by decide +kernel
theorem dX9_fewest_31 : decode cX9_fewest 31 = .ok (.getfield 37, 3) := by decide +kernel
theorem dX9_fewest_34 : decode cX9_fewest 34 = .ok (.aload_n 0, 1) := by decide +kernel
theorem dX9_fewest_35 : decode cX9_fewest 35 = .ok (.getfield 30, 3) := by decide +kernel
theorem dX9_fewest_38 : decode cX9_fewest 38 = .ok (.aload_n 0, 1) := by decide +kernel
theorem dX9_fewest_39 : decode cX9_fewest 39 = .ok (.getfield 12, 3) := by decide +kernel
theorem dX9_fewest_42 : decode cX9_fewest 42 = .ok (.invokevirtual 212, 3) := by decide +kernel
theorem dX9_fewest_45 : decode cX9_fewest 45 = .ok (.aload_n 3, 1) := by decide +kernel
theorem dX9_fewest_46 : decode cX9_fewest 46 = .ok (.aload_n 0, 1) := by decide +kernel
theorem dX9_fewest_47 : decode cX9_fewest 47 = .ok (.getfield 12, 3) := by decide +kernel
theorem dX9_fewest_50 : decode cX9_fewest 50 = .ok (.getfield 184, 3) := by decide +kernel
theorem dX9_fewest_53 : decode cX9_fewest 53 = .ok (.invokevirtual 231, 3) := by decide +kernel
theorem dX9_fewest_56 : decode cX9_fewest 56 = .ok (.aload_n 0, 1) := by decide +kernel
theorem dX9_fewest_57 : decode cX9_fewest 57 = .ok (.getfield 37, 3) := by decide +kernel
theorem dX9_fewest_60 : decode cX9_fewest 60 = .ok (.invokevirtual 235, 3) := by decide +kernel
theorem dX9_fewest_63 : decode cX9_fewest 63 = .ok (.istore 4, 2) := by decide +kernel
theorem dX9_fewest_65 : decode cX9_fewest 65 = .ok (.iload_n 2, 1) := by decide +kernel
theorem dX9_fewest_66 : decode cX9_fewest 66 = .ok (.ifCond .eq 9, 3) := by decide +kernel
theorem dX9_fewest_69 : decode cX9_fewest 69 = .ok (.iload 4, 2) := by decide +kernel
theorem dX9_fewest_71 : decode cX9_fewest 71 = .ok (.iload_n 2, 1) := by decide +kernel
theorem dX9_fewest_72 : decode cX9_fewest 72 = .ok (.if_icmp .ge 14, 3) := by decide +kernel
theorem dX9_fewest_75 : decode cX9_fewest 75 = .ok (.iload_n 2, 1) := by decide +kernel
theorem dX9_fewest_76 : decode cX9_fewest 76 = .ok (.ifCond .ne 8, 3) := by decide +kernel
theorem dX9_fewest_79 : decode cX9_fewest 79 = .ok (.iload 4, 2) := by decide +kernel
theorem dX9_fewest_81 : decode cX9_fewest 81 = .ok (.goto 4, 3) := by decide +kernel
theorem dX9_fewest_84 : decode cX9_fewest 84 = .ok (.iconst (-1), 1) := by decide +kernel
theorem dX9_fewest_85 : decode cX9_fewest 85 = .ok (.ireturn, 1) := by decide +kernel
theorem dX9_fewest_86 : decode cX9_fewest 86 = .ok (.aload_n 0, 1) := by decide +kernel
theorem dX9_fewest_87 : decode cX9_fewest 87 = .ok (.getfield 37, 3) := by decide +kernel
theorem dX9_fewest_90 : decode cX9_fewest 90 = .ok (.getfield 239, 3) := by decide +kernel
theorem dX9_fewest_93 : decode cX9_fewest 93 = .ok (.iload_n 2, 1) := by decide +kernel
theorem dX9_fewest_94 : decode cX9_fewest 94 = .ok (.iconst 1, 1) := by decide +kernel
theorem dX9_fewest_95 : decode cX9_fewest 95 = .ok (.isub, 1) := by decide +kernel
theorem dX9_fewest_96 : decode cX9_fewest 96 = .ok (.iaload, 1) := by decide +kernel
theorem dX9_fewest_97 : decode cX9_fewest 97 = .ok (.ireturn, 1) := by decide +kernel
theorem dX9_tap_0 : decode cX9_tap 0 = .ok (.aload_n 0, 1) := by decide +kernel
theorem dX9_tap_1 : decode cX9_tap 1 = .ok (.iload_n 1, 1) := by decide +kernel
theorem dX9_tap_2 : decode cX9_tap 2 = .ok (.invokevirtual 78, 3) := by decide +kernel
theorem dX9_tap_5 : decode cX9_tap 5 = .ok (.astore 4, 2) := by decide +kernel
theorem dX9_tap_7 : decode cX9_tap 7 = .ok (.aload 4, 2) := by decide +kernel
theorem dX9_tap_9 : decode cX9_tap 9 = .ok (.ifnull 30, 3) := by decide +kernel
theorem dX9_tap_12 : decode cX9_tap 12 = .ok (.iload_n 2, 1) := by decide +kernel
theorem dX9_tap_13 : decode cX9_tap 13 = .ok (.invokestatic 150, 3) := by decide +kernel
theorem dX9_tap_16 : decode cX9_tap 16 = .ok (.ifCond .eq 23, 3) := by decide +kernel
theorem dX9_tap_19 : decode cX9_tap 19 = .ok (.iload_n 3, 1) := by decide +kernel
theorem dX9_tap_20 : decode cX9_tap 20 = .ok (.iconst 0, 1) := by decide +kernel
theorem dX9_tap_21 : decode cX9_tap 21 = .ok (.ldc 242, 2) := by decide +kernel
theorem dX9_tap_23 : decode cX9_tap 23 = .ok (.invokestatic 89, 3) := by decide +kernel
theorem dX9_tap_26 : decode cX9_tap 26 = .ok (.ifCond .eq 13, 3) := by decide +kernel
theorem dX9_tap_29 : decode cX9_tap 29 = .ok (.aload 4, 2) := by decide +kernel
theorem dX9_tap_31 : decode cX9_tap 31 = .ok (.getfield 200, 3) := by decide +kernel
theorem dX9_tap_34 : decode cX9_tap 34 = .ok (.bipush 12, 2) := by decide +kernel
theorem dX9_tap_36 : decode cX9_tap 36 = .ok (.if_icmp .lt 5, 3) := by decide +kernel
theorem dX9_tap_39 : decode cX9_tap 39 = .ok (.iconst (-1), 1) := by decide +kernel
theorem dX9_tap_40 : decode cX9_tap 40 = .ok (.ireturn, 1) := by decide +kernel
theorem dX9_tap_41 : decode cX9_tap 41 = .ok (.aload 4, 2) := by decide +kernel
theorem dX9_tap_43 : decode cX9_tap 43 = .ok (.iload_n 2, 1) := by decide +kernel
theorem dX9_tap_44 : decode cX9_tap 44 = .ok (.iload_n 3, 1) := by decide +kernel
theorem dX9_tap_45 : decode cX9_tap 45 = .ok (.invokevirtual 243, 3) := by decide +kernel
theorem dX9_tap_48 : decode cX9_tap 48 = .ok (.aload 4, 2) := by decide +kernel
theorem dX9_tap_50 : decode cX9_tap 50 = .ok (.getfield 200, 3) := by decide +kernel
theorem dX9_tap_53 : decode cX9_tap 53 = .ok (.ireturn, 1) := by decide +kernel
theorem dX9_fits_0 : decode cX9_fits 0 = .ok (.aload_n 0, 1) := by decide +kernel
theorem dX9_fits_1 : decode cX9_fits 1 = .ok (.iload_n 1, 1) := by decide +kernel
theorem dX9_fits_2 : decode cX9_fits 2 = .ok (.invokevirtual 78, 3) := by decide +kernel
theorem dX9_fits_5 : decode cX9_fits 5 = .ok (.astore 5, 2) := by decide +kernel
theorem dX9_fits_7 : decode cX9_fits 7 = .ok (.aload 5, 2) := by decide +kernel
theorem dX9_fits_9 : decode cX9_fits 9 = .ok (.ifnull 31, 3) := by decide +kernel
theorem dX9_fits_12 : decode cX9_fits 12 = .ok (.aload 5, 2) := by decide +kernel
theorem dX9_fits_14 : decode cX9_fits 14 = .ok (.getfield 187, 3) := by decide +kernel
theorem dX9_fits_17 : decode cX9_fits 17 = .ok (.iconst 5, 1) := by decide +kernel
theorem dX9_fits_18 : decode cX9_fits 18 = .ok (.if_icmp .gt 22, 3) := by decide +kernel
theorem dX9_fits_21 : decode cX9_fits 21 = .ok (.iload_n 2, 1) := by decide +kernel
theorem dX9_fits_22 : decode cX9_fits 22 = .ok (.iconst 1, 1) := by decide +kernel
theorem dX9_fits_23 : decode cX9_fits 23 = .ok (.iconst 4, 1) := by decide +kernel
theorem dX9_fits_24 : decode cX9_fits 24 = .ok (.invokestatic 89, 3) := by decide +kernel
theorem dX9_fits_27 : decode cX9_fits 27 = .ok (.ifCond .eq 13, 3) := by decide +kernel
theorem dX9_fits_30 : decode cX9_fits 30 = .ok (.iload_n 3, 1) := by decide +kernel
theorem dX9_fits_31 : decode cX9_fits 31 = .ok (.iconst 0, 1) := by decide +kernel
theorem dX9_fits_32 : decode cX9_fits 32 = .ok (.ldc 247, 2) := by decide +kernel
theorem dX9_fits_34 : decode cX9_fits 34 = .ok (.invokestatic 89, 3) := by decide +kernel
theorem dX9_fits_37 : decode cX9_fits 37 = .ok (.ifCond .ne 5, 3) := by decide +kernel
theorem dX9_fits_40 : decode cX9_fits 40 = .ok (.iconst (-1), 1) := by decide +kernel
theorem dX9_fits_41 : decode cX9_fits 41 = .ok (.ireturn, 1) := by decide +kernel
theorem dX9_fits_42 : decode cX9_fits 42 = .ok (.iload 4, 2) := by decide +kernel
theorem dX9_fits_44 : decode cX9_fits 44 = .ok (.bipush 10, 2) := by decide +kernel
theorem dX9_fits_46 : decode cX9_fits 46 = .ok (.isub, 1) := by decide +kernel
theorem dX9_fits_47 : decode cX9_fits 47 = .ok (.istore 6, 2) := by decide +kernel
theorem dX9_fits_49 : decode cX9_fits 49 = .ok (.iload 4, 2) := by decide +kernel
theorem dX9_fits_51 : decode cX9_fits 51 = .ok (.ifCond .eq 28, 3) := by decide +kernel
theorem dX9_fits_54 : decode cX9_fits 54 = .ok (.iload 4, 2) := by decide +kernel
theorem dX9_fits_56 : decode cX9_fits 56 = .ok (.iconst 1, 1) := by decide +kernel
theorem dX9_fits_57 : decode cX9_fits 57 = .ok (.if_icmp .eq 22, 3) := by decide +kernel
theorem dX9_fits_60 : decode cX9_fits 60 = .ok (.iload 4, 2) := by decide +kernel
theorem dX9_fits_62 : decode cX9_fits 62 = .ok (.bipush 10, 2) := by decide +kernel
theorem dX9_fits_64 : decode cX9_fits 64 = .ok (.if_icmp .lt 13, 3) := by decide +kernel
theorem dX9_fits_67 : decode cX9_fits 67 = .ok (.aload 5, 2) := by decide +kernel
theorem dX9_fits_69 : decode cX9_fits 69 = .ok (.iload 6, 2) := by decide +kernel
theorem dX9_fits_71 : decode cX9_fits 71 = .ok (.invokevirtual 82, 3) := by decide +kernel
theorem dX9_fits_74 : decode cX9_fits 74 = .ok (.ifCond .ne 5, 3) := by decide +kernel
theorem dX9_fits_77 : decode cX9_fits 77 = .ok (.iconst (-1), 1) := by decide +kernel
theorem dX9_fits_78 : decode cX9_fits 78 = .ok (.ireturn, 1) := by decide +kernel
theorem dX9_fits_79 : decode cX9_fits 79 = .ok (.aload_n 0, 1) := by decide +kernel
theorem dX9_fits_80 : decode cX9_fits 80 = .ok (.getfield 44, 3) := by decide +kernel
theorem dX9_fits_83 : decode cX9_fits 83 = .ok (.aload_n 0, 1) := by decide +kernel
theorem dX9_fits_84 : decode cX9_fits 84 = .ok (.getfield 30, 3) := by decide +kernel
theorem dX9_fits_87 : decode cX9_fits 87 = .ok (.aload_n 0, 1) := by decide +kernel
theorem dX9_fits_88 : decode cX9_fits 88 = .ok (.getfield 12, 3) := by decide +kernel
theorem dX9_fits_91 : decode cX9_fits 91 = .ok (.invokevirtual 212, 3) := by decide +kernel
theorem dX9_fits_94 : decode cX9_fits 94 = .ok (.aload 5, 2) := by decide +kernel
theorem dX9_fits_96 : decode cX9_fits 96 = .ok (.iload_n 2, 1) := by decide +kernel
theorem dX9_fits_97 : decode cX9_fits 97 = .ok (.iload_n 3, 1) := by decide +kernel
theorem dX9_fits_98 : decode cX9_fits 98 = .ok (.invokevirtual 248, 3) := by decide +kernel
theorem dX9_fits_101 : decode cX9_fits 101 = .ok (.istore 7, 2) := by decide +kernel
theorem dX9_fits_103 : decode cX9_fits 103 = .ok (.iload 4, 2) := by decide +kernel
theorem dX9_fits_105 : decode cX9_fits 105 = .ok (.ifCond .ne 6, 3) := by decide +kernel
theorem dX9_fits_108 : decode cX9_fits 108 = .ok (.iload 7, 2) := by decide +kernel
theorem dX9_fits_110 : decode cX9_fits 110 = .ok (.ireturn, 1) := by decide +kernel
theorem dX9_fits_111 : decode cX9_fits 111 = .ok (.iload 4, 2) := by decide +kernel
theorem dX9_fits_113 : decode cX9_fits 113 = .ok (.iconst 1, 1) := by decide +kernel
theorem dX9_fits_114 : decode cX9_fits 114 = .ok (.if_icmp .ne 26, 3) := by decide +kernel
theorem dX9_fits_117 : decode cX9_fits 117 = .ok (.aload_n 0, 1) := by decide +kernel
theorem dX9_fits_118 : decode cX9_fits 118 = .ok (.getfield 44, 3) := by decide +kernel
theorem dX9_fits_121 : decode cX9_fits 121 = .ok (.aload_n 0, 1) := by decide +kernel
theorem dX9_fits_122 : decode cX9_fits 122 = .ok (.getfield 30, 3) := by decide +kernel
theorem dX9_fits_125 : decode cX9_fits 125 = .ok (.aload_n 0, 1) := by decide +kernel
theorem dX9_fits_126 : decode cX9_fits 126 = .ok (.getfield 12, 3) := by decide +kernel
theorem dX9_fits_129 : decode cX9_fits 129 = .ok (.invokevirtual 212, 3) := by decide +kernel
theorem dX9_fits_132 : decode cX9_fits 132 = .ok (.aload 5, 2) := by decide +kernel
theorem dX9_fits_134 : decode cX9_fits 134 = .ok (.invokevirtual 251, 3) := by decide +kernel
theorem dX9_fits_137 : decode cX9_fits 137 = .ok (.goto 12, 3) := by decide +kernel
theorem dX9_fits_140 : decode cX9_fits 140 = .ok (.aload_n 0, 1) := by decide +kernel
theorem dX9_fits_141 : decode cX9_fits 141 = .ok (.getfield 44, 3) := by decide +kernel
theorem dX9_fits_144 : decode cX9_fits 144 = .ok (.iload 6, 2) := by decide +kernel
theorem dX9_fits_146 : decode cX9_fits 146 = .ok (.invokevirtual 255, 3) := by decide +kernel
theorem dX9_fits_149 : decode cX9_fits 149 = .ok (.ireturn, 1) := by decide +kernel
theorem dX9_off_0 : decode cX9_off 0 = .ok (.iload_n 1, 1) := by decide +kernel
theorem dX9_off_1 : decode cX9_off 1 = .ok (.iconst (-1), 1) := by decide +kernel
theorem dX9_off_2 : decode cX9_off 2 = .ok (.if_icmp .ne 38, 3) := by decide +kernel
theorem dX9_off_5 : decode cX9_off 5 = .ok (.aload_n 0, 1) := by decide +kernel
theorem dX9_off_6 : decode cX9_off 6 = .ok (.aload_n 0, 1) := by decide +kernel
theorem dX9_off_7 : decode cX9_off 7 = .ok (.getfield 12, 3) := by decide +kernel
theorem dX9_off_10 : decode cX9_off 10 = .ok (.getfield 158, 3) := by decide +kernel
theorem dX9_off_13 : decode cX9_off 13 = .ok (.iconst 1, 1) := by decide +kernel
theorem dX9_off_14 : decode cX9_off 14 = .ok (.aaload, 1) := by decide +kernel
theorem dX9_off_15 : decode cX9_off 15 = .ok (.invokevirtual 259, 3) := by decide +kernel
theorem dX9_off_18 : decode cX9_off 18 = .ok (.aload_n 0, 1) := by decide +kernel
theorem dX9_off_19 : decode cX9_off 19 = .ok (.aload_n 0, 1) := by decide +kernel
theorem dX9_off_20 : decode cX9_off 20 = .ok (.getfield 12, 3) := by decide +kernel
theorem dX9_off_23 : decode cX9_off 23 = .ok (.getfield 158, 3) := by decide +kernel
theorem dX9_off_26 : decode cX9_off 26 = .ok (.iconst 0, 1) := by decide +kernel
theorem dX9_off_27 : decode cX9_off 27 = .ok (.aaload, 1) := by decide +kernel
theorem dX9_off_28 : decode cX9_off 28 = .ok (.invokevirtual 259, 3) := by decide +kernel
theorem dX9_off_31 : decode cX9_off 31 = .ok (.if_icmp .ge 7, 3) := by decide +kernel
theorem dX9_off_34 : decode cX9_off 34 = .ok (.iconst 1, 1) := by decide +kernel
theorem dX9_off_35 : decode cX9_off 35 = .ok (.goto 4, 3) := by decide +kernel
theorem dX9_off_38 : decode cX9_off 38 = .ok (.iconst 0, 1) := by decide +kernel
theorem dX9_off_39 : decode cX9_off 39 = .ok (.ireturn, 1) := by decide +kernel
theorem dX9_off_40 : decode cX9_off 40 = .ok (.iload_n 1, 1) := by decide +kernel
theorem dX9_off_41 : decode cX9_off 41 = .ok (.iconst 0, 1) := by decide +kernel
theorem dX9_off_42 : decode cX9_off 42 = .ok (.iconst 1, 1) := by decide +kernel
theorem dX9_off_43 : decode cX9_off 43 = .ok (.invokestatic 89, 3) := by decide +kernel
theorem dX9_off_46 : decode cX9_off 46 = .ok (.ifCond .eq 19, 3) := by decide +kernel
theorem dX9_off_49 : decode cX9_off 49 = .ok (.aload_n 0, 1) := by decide +kernel
theorem dX9_off_50 : decode cX9_off 50 = .ok (.aload_n 0, 1) := by decide +kernel
theorem dX9_off_51 : decode cX9_off 51 = .ok (.getfield 12, 3) := by decide +kernel
theorem dX9_off_54 : decode cX9_off 54 = .ok (.getfield 158, 3) := by decide +kernel
theorem dX9_off_57 : decode cX9_off 57 = .ok (.iload_n 1, 1) := by decide +kernel
theorem dX9_off_58 : decode cX9_off 58 = .ok (.aaload, 1) := by decide +kernel
theorem dX9_off_59 : decode cX9_off 59 = .ok (.invokevirtual 259, 3) := by decide +kernel
theorem dX9_off_62 : decode cX9_off 62 = .ok (.goto 4, 3) := by decide +kernel
theorem dX9_off_65 : decode cX9_off 65 = .ok (.iconst (-1), 1) := by decide +kernel
theorem dX9_off_66 : decode cX9_off 66 = .ok (.ireturn, 1) := by decide +kernel
theorem dX9_still_0 : decode cX9_still 0 = .ok (.aload_n 0, 1) := by decide +kernel
theorem dX9_still_1 : decode cX9_still 1 = .ok (.iload_n 1, 1) := by decide +kernel
theorem dX9_still_2 : decode cX9_still 2 = .ok (.invokevirtual 78, 3) := by decide +kernel
theorem dX9_still_5 : decode cX9_still 5 = .ok (.astore 4, 2) := by decide +kernel
theorem dX9_still_7 : decode cX9_still 7 = .ok (.aload 4, 2) := by decide +kernel
theorem dX9_still_9 : decode cX9_still 9 = .ok (.ifnull 14, 3) := by decide +kernel
theorem dX9_still_12 : decode cX9_still 12 = .ok (.iload_n 2, 1) := by decide +kernel
theorem dX9_still_13 : decode cX9_still 13 = .ok (.invokestatic 150, 3) := by decide +kernel
theorem dX9_still_16 : decode cX9_still 16 = .ok (.ifCond .eq 7, 3) := by decide +kernel
theorem dX9_still_19 : decode cX9_still 19 = .ok (.iload_n 3, 1) := by decide +kernel
theorem dX9_still_20 : decode cX9_still 20 = .ok (.ifCond .ge 5, 3) := by decide +kernel
theorem dX9_still_23 : decode cX9_still 23 = .ok (.iconst (-1), 1) := by decide +kernel
theorem dX9_still_24 : decode cX9_still 24 = .ok (.ireturn, 1) := by decide +kernel
theorem dX9_still_25 : decode cX9_still 25 = .ok (.aload_n 0, 1) := by decide +kernel
theorem dX9_still_26 : decode cX9_still 26 = .ok (.aload 4, 2) := by decide +kernel
theorem dX9_still_28 : decode cX9_still 28 = .ok (.iload_n 2, 1) := by decide +kernel
theorem dX9_still_29 : decode cX9_still 29 = .ok (.invokevirtual 263, 3) := by decide +kernel
theorem dX9_still_32 : decode cX9_still 32 = .ok (.istore 5, 2) := by decide +kernel
theorem dX9_still_34 : decode cX9_still 34 = .ok (.iload_n 3, 1) := by decide +kernel
theorem dX9_still_35 : decode cX9_still 35 = .ok (.ifCond .ne 6, 3) := by decide +kernel
theorem dX9_still_38 : decode cX9_still 38 = .ok (.iload 5, 2) := by decide +kernel
theorem dX9_still_40 : decode cX9_still 40 = .ok (.ireturn, 1) := by decide +kernel
theorem dX9_still_41 : decode cX9_still 41 = .ok (.iload_n 3, 1) := by decide +kernel
theorem dX9_still_42 : decode cX9_still 42 = .ok (.iload 5, 2) := by decide +kernel
theorem dX9_still_44 : decode cX9_still 44 = .ok (.if_icmp .gt 14, 3) := by decide +kernel
theorem dX9_still_47 : decode cX9_still 47 = .ok (.aload_n 0, 1) := by decide +kernel
theorem dX9_still_48 : decode cX9_still 48 = .ok (.getfield 58, 3) := by decide +kernel
theorem dX9_still_51 : decode cX9_still 51 = .ok (.iload_n 3, 1) := by decide +kernel
theorem dX9_still_52 : decode cX9_still 52 = .ok (.iconst 1, 1) := by decide +kernel
theorem dX9_still_53 : decode cX9_still 53 = .ok (.isub, 1) := by decide +kernel
theorem dX9_still_54 : decode cX9_still 54 = .ok (.iaload, 1) := by decide +kernel
theorem dX9_still_55 : decode cX9_still 55 = .ok (.goto 4, 3) := by decide +kernel
theorem dX9_still_58 : decode cX9_still 58 = .ok (.iconst (-1), 1) := by decide +kernel
theorem dX9_still_59 : decode cX9_still 59 = .ok (.ireturn, 1) := by decide +kernel
theorem dX9_holes_0 : decode cX9_holes 0 = .ok (.aload_n 0, 1) := by decide +kernel
theorem dX9_holes_1 : decode cX9_holes 1 = .ok (.iload_n 1, 1) := by decide +kernel
theorem dX9_holes_2 : decode cX9_holes 2 = .ok (.invokevirtual 78, 3) := by decide +kernel
theorem dX9_holes_5 : decode cX9_holes 5 = .ok (.astore 4, 2) := by decide +kernel
theorem dX9_holes_7 : decode cX9_holes 7 = .ok (.aload 4, 2) := by decide +kernel
theorem dX9_holes_9 : decode cX9_holes 9 = .ok (.ifnull 26, 3) := by decide +kernel
theorem dX9_holes_12 : decode cX9_holes 12 = .ok (.aload 4, 2) := by decide +kernel
theorem dX9_holes_14 : decode cX9_holes 14 = .ok (.iload_n 2, 1) := by decide +kernel
theorem dX9_holes_15 : decode cX9_holes 15 = .ok (.invokevirtual 82, 3) := by decide +kernel
theorem dX9_holes_18 : decode cX9_holes 18 = .ok (.ifCond .eq 17, 3) := by decide +kernel
theorem dX9_holes_21 : decode cX9_holes 21 = .ok (.aload 4, 2) := by decide +kernel
theorem dX9_holes_23 : decode cX9_holes 23 = .ok (.iload_n 3, 1) := by decide +kernel
theorem dX9_holes_24 : decode cX9_holes 24 = .ok (.invokevirtual 82, 3) := by decide +kernel
theorem dX9_holes_27 : decode cX9_holes 27 = .ok (.ifCond .eq 8, 3) := by decide +kernel
theorem dX9_holes_30 : decode cX9_holes 30 = .ok (.iload_n 2, 1) := by decide +kernel
theorem dX9_holes_31 : decode cX9_holes 31 = .ok (.iload_n 3, 1) := by decide +kernel
theorem dX9_holes_32 : decode cX9_holes 32 = .ok (.if_icmp .lt 5, 3) := by decide +kernel
theorem dX9_holes_35 : decode cX9_holes 35 = .ok (.iconst 0, 1) := by decide +kernel
theorem dX9_holes_36 : decode cX9_holes 36 = .ok (.ireturn, 1) := by decide +kernel
theorem dX9_holes_37 : decode cX9_holes 37 = .ok (.aload 4, 2) := by decide +kernel
theorem dX9_holes_39 : decode cX9_holes 39 = .ok (.iload_n 2, 1) := by decide +kernel
theorem dX9_holes_40 : decode cX9_holes 40 = .ok (.putfield 266, 3) := by decide +kernel
theorem dX9_holes_43 : decode cX9_holes 43 = .ok (.aload 4, 2) := by decide +kernel
theorem dX9_holes_45 : decode cX9_holes 45 = .ok (.iload_n 3, 1) := by decide +kernel
theorem dX9_holes_46 : decode cX9_holes 46 = .ok (.putfield 269, 3) := by decide +kernel
theorem dX9_holes_49 : decode cX9_holes 49 = .ok (.iconst 1, 1) := by decide +kernel
theorem dX9_holes_50 : decode cX9_holes 50 = .ok (.ireturn, 1) := by decide +kernel
theorem dX9_tube_0 : decode cX9_tube 0 = .ok (.aload_n 0, 1) := by decide +kernel
theorem dX9_tube_1 : decode cX9_tube 1 = .ok (.iload_n 1, 1) := by decide +kernel
theorem dX9_tube_2 : decode cX9_tube 2 = .ok (.invokevirtual 78, 3) := by decide +kernel
theorem dX9_tube_5 : decode cX9_tube 5 = .ok (.astore 4, 2) := by decide +kernel
theorem dX9_tube_7 : decode cX9_tube 7 = .ok (.aload 4, 2) := by decide +kernel
theorem dX9_tube_9 : decode cX9_tube 9 = .ok (.ifnull 23, 3) := by decide +kernel
theorem dX9_tube_12 : decode cX9_tube 12 = .ok (.iload_n 2, 1) := by decide +kernel
theorem dX9_tube_13 : decode cX9_tube 13 = .ok (.iconst 0, 1) := by decide +kernel
theorem dX9_tube_14 : decode cX9_tube 14 = .ok (.iconst 1, 1) := by decide +kernel
theorem dX9_tube_15 : decode cX9_tube 15 = .ok (.invokestatic 89, 3) := by decide +kernel
theorem dX9_tube_18 : decode cX9_tube 18 = .ok (.ifCond .eq 14, 3) := by decide +kernel
theorem dX9_tube_21 : decode cX9_tube 21 = .ok (.iload_n 3, 1) := by decide +kernel
theorem dX9_tube_22 : decode cX9_tube 22 = .ok (.iconst 1, 1) := by decide +kernel
theorem dX9_tube_23 : decode cX9_tube 23 = .ok (.sipush 9999, 3) := by decide +kernel
theorem dX9_tube_26 : decode cX9_tube 26 = .ok (.invokestatic 89, 3) := by decide +kernel
theorem dX9_tube_29 : decode cX9_tube 29 = .ok (.ifCond .ne 5, 3) := by decide +kernel
theorem dX9_tube_32 : decode cX9_tube 32 = .ok (.iconst 0, 1) := by decide +kernel
theorem dX9_tube_33 : decode cX9_tube 33 = .ok (.ireturn, 1) := by decide +kernel
theorem dX9_tube_34 : decode cX9_tube 34 = .ok (.aload 4, 2) := by decide +kernel
theorem dX9_tube_36 : decode cX9_tube 36 = .ok (.getfield 272, 3) := by decide +kernel
theorem dX9_tube_39 : decode cX9_tube 39 = .ok (.iload_n 2, 1) := by decide +kernel
theorem dX9_tube_40 : decode cX9_tube 40 = .ok (.iload_n 3, 1) := by decide +kernel
theorem dX9_tube_41 : decode cX9_tube 41 = .ok (.iastore, 1) := by decide +kernel
theorem dX9_tube_42 : decode cX9_tube 42 = .ok (.iconst 1, 1) := by decide +kernel
theorem dX9_tube_43 : decode cX9_tube 43 = .ok (.ireturn, 1) := by decide +kernel
theorem dX9_in_0 : decode cX9_in 0 = .ok (.aload_n 0, 1) := by decide +kernel
theorem dX9_in_1 : decode cX9_in 1 = .ok (.iload_n 1, 1) := by decide +kernel
theorem dX9_in_2 : decode cX9_in 2 = .ok (.invokevirtual 78, 3) := by decide +kernel
theorem dX9_in_5 : decode cX9_in 5 = .ok (.astore 5, 2) := by decide +kernel
theorem dX9_in_7 : decode cX9_in 7 = .ok (.aload 5, 2) := by decide +kernel
theorem dX9_in_9 : decode cX9_in 9 = .ok (.ifnull 21, 3) := by decide +kernel
theorem dX9_in_12 : decode cX9_in 12 = .ok (.iload_n 2, 1) := by decide +kernel
theorem dX9_in_13 : decode cX9_in 13 = .ok (.iload_n 3, 1) := by decide +kernel
theorem dX9_in_14 : decode cX9_in 14 = .ok (.invokestatic 275, 3) := by decide +kernel
theorem dX9_in_17 : decode cX9_in 17 = .ok (.ifCond .eq 13, 3) := by decide +kernel
theorem dX9_in_20 : decode cX9_in 20 = .ok (.iload 4, 2) := by decide +kernel
theorem dX9_in_22 : decode cX9_in 22 = .ok (.iconst 0, 1) := by decide +kernel
theorem dX9_in_23 : decode cX9_in 23 = .ok (.iconst 3, 1) := by decide +kernel
theorem dX9_in_24 : decode cX9_in 24 = .ok (.invokestatic 89, 3) := by decide +kernel
theorem dX9_in_27 : decode cX9_in 27 = .ok (.ifCond .ne 5, 3) := by decide +kernel
theorem dX9_in_30 : decode cX9_in 30 = .ok (.iconst (-1), 1) := by decide +kernel
theorem dX9_in_31 : decode cX9_in 31 = .ok (.ireturn, 1) := by decide +kernel
theorem dX9_in_32 : decode cX9_in 32 = .ok (.aload_n 0, 1) := by decide +kernel
theorem dX9_in_33 : decode cX9_in 33 = .ok (.aload 5, 2) := by decide +kernel
theorem dX9_in_35 : decode cX9_in 35 = .ok (.iconst 0, 1) := by decide +kernel
theorem dX9_in_36 : decode cX9_in 36 = .ok (.invokevirtual 166, 3) := by decide +kernel
theorem dX9_in_39 : decode cX9_in 39 = .ok (.aload_n 0, 1) := by decide +kernel
theorem dX9_in_40 : decode cX9_in 40 = .ok (.iload_n 2, 1) := by decide +kernel
theorem dX9_in_41 : decode cX9_in 41 = .ok (.iload_n 3, 1) := by decide +kernel
theorem dX9_in_42 : decode cX9_in 42 = .ok (.invokevirtual 279, 3) := by decide +kernel
theorem dX9_in_45 : decode cX9_in 45 = .ok (.invokestatic 283, 3) := by decide +kernel
theorem dX9_in_48 : decode cX9_in 48 = .ok (.istore 6, 2) := by decide +kernel
theorem dX9_in_50 : decode cX9_in 50 = .ok (.iload 4, 2) := by decide +kernel
theorem dX9_in_52 : decode cX9_in 52 = .ok (.tableswitch 51 0 2 #[28, 31, 41], 28) := by decide +kernel
theorem dX9_in_80 : decode cX9_in 80 = .ok (.iload 6, 2) := by decide +kernel
theorem dX9_in_82 : decode cX9_in 82 = .ok (.ireturn, 1) := by decide +kernel
theorem dX9_in_83 : decode cX9_in 83 = .ok (.aload 5, 2) := by decide +kernel
theorem dX9_in_85 : decode cX9_in 85 = .ok (.iconst 0, 1) := by decide +kernel
theorem dX9_in_86 : decode cX9_in 86 = .ok (.iload_n 2, 1) := by decide +kernel
theorem dX9_in_87 : decode cX9_in 87 = .ok (.iload 6, 2) := by decide +kernel
theorem dX9_in_89 : decode cX9_in 89 = .ok (.invokestatic 286, 3) := by decide +kernel
theorem dX9_in_92 : decode cX9_in 92 = .ok (.ireturn, 1) := by decide +kernel
theorem dX9_in_93 : decode cX9_in 93 = .ok (.aload 5, 2) := by decide +kernel
theorem dX9_in_95 : decode cX9_in 95 = .ok (.iconst 1, 1) := by decide +kernel
theorem dX9_in_96 : decode cX9_in 96 = .ok (.iload_n 2, 1) := by decide +kernel
theorem dX9_in_97 : decode cX9_in 97 = .ok (.iload 6, 2) := by decide +kernel
theorem dX9_in_99 : decode cX9_in 99 = .ok (.invokestatic 286, 3) := by decide +kernel
theorem dX9_in_102 : decode cX9_in 102 = .ok (.ireturn, 1) := by decide +kernel
theorem dX9_in_103 : decode cX9_in 103 = .ok (.iload_n 2, 1) := by decide +kernel
theorem dX9_in_104 : decode cX9_in 104 = .ok (.iload 6, 2) := by decide +kernel
theorem dX9_in_106 : decode cX9_in 106 = .ok (.invokestatic 290, 3) := by decide +kernel
theorem dX9_in_109 : decode cX9_in 109 = .ok (.ireturn, 1) := by decide +kernel
theorem dX9_night_0 : decode cX9_night 0 = .ok (.iload_n 1, 1) := by decide +kernel
theorem dX9_night_1 : decode cX9_night 1 = .ok (.iload_n 2, 1) := by decide +kernel
theorem dX9_night_2 : decode cX9_night 2 = .ok (.invokestatic 275, 3) := by decide +kernel
theorem dX9_night_5 : decode cX9_night 5 = .ok (.ifCond .eq 15, 3) := by decide +kernel
theorem dX9_night_8 : decode cX9_night 8 = .ok (.aload_n 0, 1) := by decide +kernel
theorem dX9_night_9 : decode cX9_night 9 = .ok (.getfield 12, 3) := by decide +kernel
theorem dX9_night_12 : decode cX9_night 12 = .ok (.getfield 293, 3) := by decide +kernel
theorem dX9_night_15 : decode cX9_night 15 = .ok (.bipush 20, 2) := by decide +kernel
theorem dX9_night_17 : decode cX9_night 17 = .ok (.if_icmp .lt 5, 3) := by decide +kernel
theorem dX9_night_20 : decode cX9_night 20 = .ok (.iconst (-1), 1) := by decide +kernel
theorem dX9_night_21 : decode cX9_night 21 = .ok (.ireturn, 1) := by decide +kernel
theorem dX9_night_22 : decode cX9_night 22 = .ok (.aload_n 0, 1) := by decide +kernel
theorem dX9_night_23 : decode cX9_night 23 = .ok (.getfield 12, 3) := by decide +kernel
theorem dX9_night_26 : decode cX9_night 26 = .ok (.getfield 296, 3) := by decide +kernel
theorem dX9_night_29 : decode cX9_night 29 = .ok (.aload_n 0, 1) := by decide +kernel
theorem dX9_night_30 : decode cX9_night 30 = .ok (.getfield 12, 3) := by decide +kernel
theorem dX9_night_33 : decode cX9_night 33 = .ok (.getfield 293, 3) := by decide +kernel
theorem dX9_night_36 : decode cX9_night 36 = .ok (.iload_n 1, 1) := by decide +kernel
theorem dX9_night_37 : decode cX9_night 37 = .ok (.iastore, 1) := by decide +kernel
theorem dX9_night_38 : decode cX9_night 38 = .ok (.aload_n 0, 1) := by decide +kernel
theorem dX9_night_39 : decode cX9_night 39 = .ok (.getfield 12, 3) := by decide +kernel
theorem dX9_night_42 : decode cX9_night 42 = .ok (.getfield 299, 3) := by decide +kernel
theorem dX9_night_45 : decode cX9_night 45 = .ok (.aload_n 0, 1) := by decide +kernel
theorem dX9_night_46 : decode cX9_night 46 = .ok (.getfield 12, 3) := by decide +kernel
theorem dX9_night_49 : decode cX9_night 49 = .ok (.getfield 293, 3) := by decide +kernel
theorem dX9_night_52 : decode cX9_night 52 = .ok (.iload_n 2, 1) := by decide +kernel
theorem dX9_night_53 : decode cX9_night 53 = .ok (.iastore, 1) := by decide +kernel
theorem dX9_night_54 : decode cX9_night 54 = .ok (.aload_n 0, 1) := by decide +kernel
theorem dX9_night_55 : decode cX9_night 55 = .ok (.getfield 12, 3) := by decide +kernel
theorem dX9_night_58 : decode cX9_night 58 = .ok (.dup, 1) := by decide +kernel
theorem dX9_night_59 : decode cX9_night 59 = .ok (.getfield 293, 3) := by decide +kernel
theorem dX9_night_62 : decode cX9_night 62 = .ok (.iconst 1, 1) := by decide +kernel
theorem dX9_night_63 : decode cX9_night 63 = .ok (.iadd, 1) := by decide +kernel
theorem dX9_night_64 : decode cX9_night 64 = .ok (.putfield 293, 3) := by decide +kernel
theorem dX9_night_67 : decode cX9_night 67 = .ok (.aload_n 0, 1) := by decide +kernel
theorem dX9_night_68 : decode cX9_night 68 = .ok (.getfield 12, 3) := by decide +kernel
theorem dX9_night_71 : decode cX9_night 71 = .ok (.getfield 293, 3) := by decide +kernel
theorem dX9_night_74 : decode cX9_night 74 = .ok (.iconst 1, 1) := by decide +kernel
theorem dX9_night_75 : decode cX9_night 75 = .ok (.isub, 1) := by decide +kernel
theorem dX9_night_76 : decode cX9_night 76 = .ok (.ireturn, 1) := by decide +kernel
theorem dX9_nights_0 : decode cX9_nights 0 = .ok (.iload_n 1, 1) := by decide +kernel
theorem dX9_nights_1 : decode cX9_nights 1 = .ok (.iconst (-1), 1) := by decide +kernel
theorem dX9_nights_2 : decode cX9_nights 2 = .ok (.if_icmp .eq 32, 3) := by decide +kernel
theorem dX9_nights_5 : decode cX9_nights 5 = .ok (.iload_n 1, 1) := by decide +kernel
theorem dX9_nights_6 : decode cX9_nights 6 = .ok (.iconst 0, 1) := by decide +kernel
theorem dX9_nights_7 : decode cX9_nights 7 = .ok (.aload_n 0, 1) := by decide +kernel
theorem dX9_nights_8 : decode cX9_nights 8 = .ok (.getfield 12, 3) := by decide +kernel
theorem dX9_nights_11 : decode cX9_nights 11 = .ok (.getfield 293, 3) := by decide +kernel
theorem dX9_nights_14 : decode cX9_nights 14 = .ok (.iconst 1, 1) := by decide +kernel
theorem dX9_nights_15 : decode cX9_nights 15 = .ok (.isub, 1) := by decide +kernel
theorem dX9_nights_16 : decode cX9_nights 16 = .ok (.invokestatic 89, 3) := by decide +kernel
theorem dX9_nights_19 : decode cX9_nights 19 = .ok (.ifCond .eq 12, 3) := by decide +kernel
theorem dX9_nights_22 : decode cX9_nights 22 = .ok (.iload_n 2, 1) := by decide +kernel
theorem dX9_nights_23 : decode cX9_nights 23 = .ok (.iconst 0, 1) := by decide +kernel
theorem dX9_nights_24 : decode cX9_nights 24 = .ok (.iconst 3, 1) := by decide +kernel
theorem dX9_nights_25 : decode cX9_nights 25 = .ok (.invokestatic 89, 3) := by decide +kernel
theorem dX9_nights_28 : decode cX9_nights 28 = .ok (.ifCond .ne 6, 3) := by decide +kernel
theorem dX9_nights_31 : decode cX9_nights 31 = .ok (.bipush (-2), 2) := by decide +kernel
theorem dX9_nights_33 : decode cX9_nights 33 = .ok (.ireturn, 1) := by decide +kernel
theorem dX9_nights_34 : decode cX9_nights 34 = .ok (.aload_n 0, 1) := by decide +kernel
theorem dX9_nights_35 : decode cX9_nights 35 = .ok (.invokevirtual 302, 3) := by decide +kernel
theorem dX9_nights_38 : decode cX9_nights 38 = .ok (.iload_n 1, 1) := by decide +kernel
theorem dX9_nights_39 : decode cX9_nights 39 = .ok (.iconst (-1), 1) := by decide +kernel
theorem dX9_nights_40 : decode cX9_nights 40 = .ok (.if_icmp .ne 8, 3) := by decide +kernel
theorem dX9_nights_43 : decode cX9_nights 43 = .ok (.aload_n 0, 1) := by decide +kernel
theorem dX9_nights_44 : decode cX9_nights 44 = .ok (.invokevirtual 305, 3) := by decide +kernel
theorem dX9_nights_47 : decode cX9_nights 47 = .ok (.ireturn, 1) := by decide +kernel
theorem dX9_nights_48 : decode cX9_nights 48 = .ok (.iload_n 2, 1) := by decide +kernel
theorem dX9_nights_49 : decode cX9_nights 49 = .ok (.tableswitch 47 0 2 #[27, 34, 41], 27) := by decide +kernel
theorem dX9_nights_76 : decode cX9_nights 76 = .ok (.aload_n 0, 1) := by decide +kernel
theorem dX9_nights_77 : decode cX9_nights 77 = .ok (.iload_n 1, 1) := by decide +kernel
theorem dX9_nights_78 : decode cX9_nights 78 = .ok (.iconst 0, 1) := by decide +kernel
theorem dX9_nights_79 : decode cX9_nights 79 = .ok (.invokevirtual 308, 3) := by decide +kernel
theorem dX9_nights_82 : decode cX9_nights 82 = .ok (.ireturn, 1) := by decide +kernel
theorem dX9_nights_83 : decode cX9_nights 83 = .ok (.aload_n 0, 1) := by decide +kernel
theorem dX9_nights_84 : decode cX9_nights 84 = .ok (.iload_n 1, 1) := by decide +kernel
theorem dX9_nights_85 : decode cX9_nights 85 = .ok (.iconst 1, 1) := by decide +kernel
theorem dX9_nights_86 : decode cX9_nights 86 = .ok (.invokevirtual 308, 3) := by decide +kernel
theorem dX9_nights_89 : decode cX9_nights 89 = .ok (.ireturn, 1) := by decide +kernel
theorem dX9_nights_90 : decode cX9_nights 90 = .ok (.aload_n 0, 1) := by decide +kernel
theorem dX9_nights_91 : decode cX9_nights 91 = .ok (.iload_n 1, 1) := by decide +kernel
theorem dX9_nights_92 : decode cX9_nights 92 = .ok (.invokevirtual 311, 3) := by decide +kernel
theorem dX9_nights_95 : decode cX9_nights 95 = .ok (.ireturn, 1) := by decide +kernel
theorem dX9_nights_96 : decode cX9_nights 96 = .ok (.aload_n 0, 1) := by decide +kernel
theorem dX9_nights_97 : decode cX9_nights 97 = .ok (.iload_n 1, 1) := by decide +kernel
theorem dX9_nights_98 : decode cX9_nights 98 = .ok (.invokevirtual 314, 3) := by decide +kernel
theorem dX9_nights_101 : decode cX9_nights 101 = .ok (.ireturn, 1) := by decide +kernel
theorem dX9_note_0 : decode cX9_note 0 = .ok (.iload_n 1, 1) := by decide +kernel
theorem dX9_note_1 : decode cX9_note 1 = .ok (.iconst 1, 1) := by decide +kernel
theorem dX9_note_2 : decode cX9_note 2 = .ok (.ldc 180, 2) := by decide +kernel
theorem dX9_note_4 : decode cX9_note 4 = .ok (.invokestatic 89, 3) := by decide +kernel
theorem dX9_note_7 : decode cX9_note 7 = .ok (.ifCond .eq 25, 3) := by decide +kernel
theorem dX9_note_10 : decode cX9_note 10 = .ok (.iload_n 2, 1) := by decide +kernel
theorem dX9_note_11 : decode cX9_note 11 = .ok (.iconst 1, 1) := by decide +kernel
theorem dX9_note_12 : decode cX9_note 12 = .ok (.bipush 99, 2) := by decide +kernel
theorem dX9_note_14 : decode cX9_note 14 = .ok (.invokestatic 89, 3) := by decide +kernel
theorem dX9_note_17 : decode cX9_note 17 = .ok (.ifCond .eq 15, 3) := by decide +kernel
theorem dX9_note_20 : decode cX9_note 20 = .ok (.aload_n 0, 1) := by decide +kernel
theorem dX9_note_21 : decode cX9_note 21 = .ok (.getfield 12, 3) := by decide +kernel
theorem dX9_note_24 : decode cX9_note 24 = .ok (.getfield 317, 3) := by decide +kernel
theorem dX9_note_27 : decode cX9_note 27 = .ok (.bipush 8, 2) := by decide +kernel
theorem dX9_note_29 : decode cX9_note 29 = .ok (.if_icmp .lt 5, 3) := by decide +kernel
theorem dX9_note_32 : decode cX9_note 32 = .ok (.iconst (-1), 1) := by decide +kernel
theorem dX9_note_33 : decode cX9_note 33 = .ok (.ireturn, 1) := by decide +kernel
theorem dX9_note_34 : decode cX9_note 34 = .ok (.aload_n 0, 1) := by decide +kernel
theorem dX9_note_35 : decode cX9_note 35 = .ok (.getfield 12, 3) := by decide +kernel
theorem dX9_note_38 : decode cX9_note 38 = .ok (.getfield 320, 3) := by decide +kernel
theorem dX9_note_41 : decode cX9_note 41 = .ok (.aload_n 0, 1) := by decide +kernel
theorem dX9_note_42 : decode cX9_note 42 = .ok (.getfield 12, 3) := by decide +kernel
theorem dX9_note_45 : decode cX9_note 45 = .ok (.getfield 317, 3) := by decide +kernel
theorem dX9_note_48 : decode cX9_note 48 = .ok (.iload_n 1, 1) := by decide +kernel
theorem dX9_note_49 : decode cX9_note 49 = .ok (.iastore, 1) := by decide +kernel
theorem dX9_note_50 : decode cX9_note 50 = .ok (.aload_n 0, 1) := by decide +kernel
theorem dX9_note_51 : decode cX9_note 51 = .ok (.getfield 12, 3) := by decide +kernel
theorem dX9_note_54 : decode cX9_note 54 = .ok (.getfield 323, 3) := by decide +kernel
theorem dX9_note_57 : decode cX9_note 57 = .ok (.aload_n 0, 1) := by decide +kernel
theorem dX9_note_58 : decode cX9_note 58 = .ok (.getfield 12, 3) := by decide +kernel
theorem dX9_note_61 : decode cX9_note 61 = .ok (.getfield 317, 3) := by decide +kernel
theorem dX9_note_64 : decode cX9_note 64 = .ok (.iload_n 2, 1) := by decide +kernel
theorem dX9_note_65 : decode cX9_note 65 = .ok (.iastore, 1) := by decide +kernel
theorem dX9_note_66 : decode cX9_note 66 = .ok (.aload_n 0, 1) := by decide +kernel
theorem dX9_note_67 : decode cX9_note 67 = .ok (.getfield 12, 3) := by decide +kernel
theorem dX9_note_70 : decode cX9_note 70 = .ok (.dup, 1) := by decide +kernel
theorem dX9_note_71 : decode cX9_note 71 = .ok (.getfield 317, 3) := by decide +kernel
theorem dX9_note_74 : decode cX9_note 74 = .ok (.iconst 1, 1) := by decide +kernel
theorem dX9_note_75 : decode cX9_note 75 = .ok (.iadd, 1) := by decide +kernel
theorem dX9_note_76 : decode cX9_note 76 = .ok (.putfield 317, 3) := by decide +kernel
theorem dX9_note_79 : decode cX9_note 79 = .ok (.aload_n 0, 1) := by decide +kernel
theorem dX9_note_80 : decode cX9_note 80 = .ok (.getfield 12, 3) := by decide +kernel
theorem dX9_note_83 : decode cX9_note 83 = .ok (.getfield 317, 3) := by decide +kernel
theorem dX9_note_86 : decode cX9_note 86 = .ok (.iconst 1, 1) := by decide +kernel
theorem dX9_note_87 : decode cX9_note 87 = .ok (.isub, 1) := by decide +kernel
theorem dX9_note_88 : decode cX9_note 88 = .ok (.ireturn, 1) := by decide +kernel
theorem dX9_blank_0 : decode cX9_blank 0 = .ok (.iload_n 1, 1) := by decide +kernel
theorem dX9_blank_1 : decode cX9_blank 1 = .ok (.iconst 1, 1) := by decide +kernel
theorem dX9_blank_2 : decode cX9_blank 2 = .ok (.bipush 99, 2) := by decide +kernel
theorem dX9_blank_4 : decode cX9_blank 4 = .ok (.invokestatic 89, 3) := by decide +kernel
theorem dX9_blank_7 : decode cX9_blank 7 = .ok (.ifCond .eq 25, 3) := by decide +kernel
theorem dX9_blank_10 : decode cX9_blank 10 = .ok (.iload_n 2, 1) := by decide +kernel
theorem dX9_blank_11 : decode cX9_blank 11 = .ok (.iconst 0, 1) := by decide +kernel
theorem dX9_blank_12 : decode cX9_blank 12 = .ok (.bipush 99, 2) := by decide +kernel
theorem dX9_blank_14 : decode cX9_blank 14 = .ok (.invokestatic 89, 3) := by decide +kernel
theorem dX9_blank_17 : decode cX9_blank 17 = .ok (.ifCond .eq 15, 3) := by decide +kernel
theorem dX9_blank_20 : decode cX9_blank 20 = .ok (.aload_n 0, 1) := by decide +kernel
theorem dX9_blank_21 : decode cX9_blank 21 = .ok (.getfield 12, 3) := by decide +kernel
theorem dX9_blank_24 : decode cX9_blank 24 = .ok (.getfield 326, 3) := by decide +kernel
theorem dX9_blank_27 : decode cX9_blank 27 = .ok (.bipush 8, 2) := by decide +kernel
theorem dX9_blank_29 : decode cX9_blank 29 = .ok (.if_icmp .lt 5, 3) := by decide +kernel
theorem dX9_blank_32 : decode cX9_blank 32 = .ok (.iconst (-1), 1) := by decide +kernel
theorem dX9_blank_33 : decode cX9_blank 33 = .ok (.ireturn, 1) := by decide +kernel
theorem dX9_blank_34 : decode cX9_blank 34 = .ok (.aload_n 0, 1) := by decide +kernel
theorem dX9_blank_35 : decode cX9_blank 35 = .ok (.getfield 12, 3) := by decide +kernel
theorem dX9_blank_38 : decode cX9_blank 38 = .ok (.getfield 329, 3) := by decide +kernel
theorem dX9_blank_41 : decode cX9_blank 41 = .ok (.aload_n 0, 1) := by decide +kernel
theorem dX9_blank_42 : decode cX9_blank 42 = .ok (.getfield 12, 3) := by decide +kernel
theorem dX9_blank_45 : decode cX9_blank 45 = .ok (.getfield 326, 3) := by decide +kernel
theorem dX9_blank_48 : decode cX9_blank 48 = .ok (.iload_n 1, 1) := by decide +kernel
theorem dX9_blank_49 : decode cX9_blank 49 = .ok (.iastore, 1) := by decide +kernel
theorem dX9_blank_50 : decode cX9_blank 50 = .ok (.aload_n 0, 1) := by decide +kernel
theorem dX9_blank_51 : decode cX9_blank 51 = .ok (.getfield 12, 3) := by decide +kernel
theorem dX9_blank_54 : decode cX9_blank 54 = .ok (.getfield 332, 3) := by decide +kernel
theorem dX9_blank_57 : decode cX9_blank 57 = .ok (.aload_n 0, 1) := by decide +kernel
theorem dX9_blank_58 : decode cX9_blank 58 = .ok (.getfield 12, 3) := by decide +kernel
theorem dX9_blank_61 : decode cX9_blank 61 = .ok (.getfield 326, 3) := by decide +kernel
theorem dX9_blank_64 : decode cX9_blank 64 = .ok (.iload_n 2, 1) := by decide +kernel
theorem dX9_blank_65 : decode cX9_blank 65 = .ok (.iastore, 1) := by decide +kernel
theorem dX9_blank_66 : decode cX9_blank 66 = .ok (.aload_n 0, 1) := by decide +kernel
theorem dX9_blank_67 : decode cX9_blank 67 = .ok (.getfield 12, 3) := by decide +kernel
theorem dX9_blank_70 : decode cX9_blank 70 = .ok (.dup, 1) := by decide +kernel
theorem dX9_blank_71 : decode cX9_blank 71 = .ok (.getfield 326, 3) := by decide +kernel
theorem dX9_blank_74 : decode cX9_blank 74 = .ok (.iconst 1, 1) := by decide +kernel
theorem dX9_blank_75 : decode cX9_blank 75 = .ok (.iadd, 1) := by decide +kernel
theorem dX9_blank_76 : decode cX9_blank 76 = .ok (.putfield 326, 3) := by decide +kernel
theorem dX9_blank_79 : decode cX9_blank 79 = .ok (.aload_n 0, 1) := by decide +kernel
theorem dX9_blank_80 : decode cX9_blank 80 = .ok (.getfield 12, 3) := by decide +kernel
theorem dX9_blank_83 : decode cX9_blank 83 = .ok (.getfield 326, 3) := by decide +kernel
theorem dX9_blank_86 : decode cX9_blank 86 = .ok (.iconst 1, 1) := by decide +kernel
theorem dX9_blank_87 : decode cX9_blank 87 = .ok (.isub, 1) := by decide +kernel
theorem dX9_blank_88 : decode cX9_blank 88 = .ok (.ireturn, 1) := by decide +kernel
theorem dX9_set_0 : decode cX9_set 0 = .ok (.iload_n 1, 1) := by decide +kernel
theorem dX9_set_1 : decode cX9_set 1 = .ok (.iconst 0, 1) := by decide +kernel
theorem dX9_set_2 : decode cX9_set 2 = .ok (.bipush 99, 2) := by decide +kernel
theorem dX9_set_4 : decode cX9_set 4 = .ok (.invokestatic 89, 3) := by decide +kernel
theorem dX9_set_7 : decode cX9_set 7 = .ok (.ifCond .eq 18, 3) := by decide +kernel
theorem dX9_set_10 : decode cX9_set 10 = .ok (.iload_n 2, 1) := by decide +kernel
theorem dX9_set_11 : decode cX9_set 11 = .ok (.iconst 0, 1) := by decide +kernel
theorem dX9_set_12 : decode cX9_set 12 = .ok (.aload_n 0, 1) := by decide +kernel
theorem dX9_set_13 : decode cX9_set 13 = .ok (.getfield 12, 3) := by decide +kernel
theorem dX9_set_16 : decode cX9_set 16 = .ok (.getfield 317, 3) := by decide +kernel
theorem dX9_set_19 : decode cX9_set 19 = .ok (.invokestatic 89, 3) := by decide +kernel
theorem dX9_set_22 : decode cX9_set 22 = .ok (.ifCond .ne 5, 3) := by decide +kernel
theorem dX9_set_25 : decode cX9_set 25 = .ok (.iconst (-1), 1) := by decide +kernel
theorem dX9_set_26 : decode cX9_set 26 = .ok (.ireturn, 1) := by decide +kernel
theorem dX9_set_27 : decode cX9_set 27 = .ok (.aload_n 0, 1) := by decide +kernel
theorem dX9_set_28 : decode cX9_set 28 = .ok (.getfield 51, 3) := by decide +kernel
theorem dX9_set_31 : decode cX9_set 31 = .ok (.aload_n 0, 1) := by decide +kernel
theorem dX9_set_32 : decode cX9_set 32 = .ok (.getfield 12, 3) := by decide +kernel
theorem dX9_set_35 : decode cX9_set 35 = .ok (.iload_n 1, 1) := by decide +kernel
theorem dX9_set_36 : decode cX9_set 36 = .ok (.invokevirtual 335, 3) := by decide +kernel
theorem dX9_set_39 : decode cX9_set 39 = .ok (.istore_n 3, 1) := by decide +kernel
theorem dX9_set_40 : decode cX9_set 40 = .ok (.iload_n 2, 1) := by decide +kernel
theorem dX9_set_41 : decode cX9_set 41 = .ok (.ifCond .eq 8, 3) := by decide +kernel
theorem dX9_set_44 : decode cX9_set 44 = .ok (.iload_n 3, 1) := by decide +kernel
theorem dX9_set_45 : decode cX9_set 45 = .ok (.iconst (-1), 1) := by decide +kernel
theorem dX9_set_46 : decode cX9_set 46 = .ok (.if_icmp .ne 5, 3) := by decide +kernel
theorem dX9_set_49 : decode cX9_set 49 = .ok (.iload_n 3, 1) := by decide +kernel
theorem dX9_set_50 : decode cX9_set 50 = .ok (.ireturn, 1) := by decide +kernel
theorem dX9_set_51 : decode cX9_set 51 = .ok (.aload_n 0, 1) := by decide +kernel
theorem dX9_set_52 : decode cX9_set 52 = .ok (.getfield 51, 3) := by decide +kernel
theorem dX9_set_55 : decode cX9_set 55 = .ok (.getfield 338, 3) := by decide +kernel
theorem dX9_set_58 : decode cX9_set 58 = .ok (.iload_n 2, 1) := by decide +kernel
theorem dX9_set_59 : decode cX9_set 59 = .ok (.iconst 1, 1) := by decide +kernel
theorem dX9_set_60 : decode cX9_set 60 = .ok (.isub, 1) := by decide +kernel
theorem dX9_set_61 : decode cX9_set 61 = .ok (.iaload, 1) := by decide +kernel
theorem dX9_set_62 : decode cX9_set 62 = .ok (.ireturn, 1) := by decide +kernel
theorem dX9_down_0 : decode cX9_down 0 = .ok (.aload_n 0, 1) := by decide +kernel
theorem dX9_down_1 : decode cX9_down 1 = .ok (.iload_n 1, 1) := by decide +kernel
theorem dX9_down_2 : decode cX9_down 2 = .ok (.invokevirtual 78, 3) := by decide +kernel
theorem dX9_down_5 : decode cX9_down 5 = .ok (.astore_n 2, 1) := by decide +kernel
theorem dX9_down_6 : decode cX9_down 6 = .ok (.aload_n 2, 1) := by decide +kernel
theorem dX9_down_7 : decode cX9_down 7 = .ok (.ifnonnull 5, 3) := by decide +kernel
theorem dX9_down_10 : decode cX9_down 10 = .ok (.iconst (-1), 1) := by decide +kernel
theorem dX9_down_11 : decode cX9_down 11 = .ok (.ireturn, 1) := by decide +kernel
theorem dX9_down_12 : decode cX9_down 12 = .ok (.aload_n 0, 1) := by decide +kernel
theorem dX9_down_13 : decode cX9_down 13 = .ok (.aload_n 2, 1) := by decide +kernel
theorem dX9_down_14 : decode cX9_down 14 = .ok (.iconst 0, 1) := by decide +kernel
theorem dX9_down_15 : decode cX9_down 15 = .ok (.invokevirtual 166, 3) := by decide +kernel
theorem dX9_down_18 : decode cX9_down 18 = .ok (.aload_n 0, 1) := by decide +kernel
theorem dX9_down_19 : decode cX9_down 19 = .ok (.getfield 12, 3) := by decide +kernel
theorem dX9_down_22 : decode cX9_down 22 = .ok (.getfield 184, 3) := by decide +kernel
theorem dX9_down_25 : decode cX9_down 25 = .ok (.iadd, 1) := by decide +kernel
theorem dX9_down_26 : decode cX9_down 26 = .ok (.istore_n 3, 1) := by decide +kernel
theorem dX9_down_27 : decode cX9_down 27 = .ok (.iconst (-1), 1) := by decide +kernel
theorem dX9_down_28 : decode cX9_down 28 = .ok (.istore 4, 2) := by decide +kernel
theorem dX9_down_30 : decode cX9_down 30 = .ok (.iconst 0, 1) := by decide +kernel
theorem dX9_down_31 : decode cX9_down 31 = .ok (.istore 5, 2) := by decide +kernel
theorem dX9_down_33 : decode cX9_down 33 = .ok (.iload 5, 2) := by decide +kernel
theorem dX9_down_35 : decode cX9_down 35 = .ok (.aload_n 0, 1) := by decide +kernel
theorem dX9_down_36 : decode cX9_down 36 = .ok (.getfield 12, 3) := by decide +kernel
theorem dX9_down_39 : decode cX9_down 39 = .ok (.getfield 317, 3) := by decide +kernel
theorem dX9_down_42 : decode cX9_down 42 = .ok (.if_icmp .ge 52, 3) := by decide +kernel
theorem dX9_down_45 : decode cX9_down 45 = .ok (.aload_n 0, 1) := by decide +kernel
theorem dX9_down_46 : decode cX9_down 46 = .ok (.getfield 12, 3) := by decide +kernel
theorem dX9_down_49 : decode cX9_down 49 = .ok (.getfield 320, 3) := by decide +kernel
theorem dX9_down_52 : decode cX9_down 52 = .ok (.iload 5, 2) := by decide +kernel
theorem dX9_down_54 : decode cX9_down 54 = .ok (.iaload, 1) := by decide +kernel
theorem dX9_down_55 : decode cX9_down 55 = .ok (.istore 6, 2) := by decide +kernel
theorem dX9_down_57 : decode cX9_down 57 = .ok (.iload 6, 2) := by decide +kernel
theorem dX9_down_59 : decode cX9_down 59 = .ok (.iload_n 3, 1) := by decide +kernel
theorem dX9_down_60 : decode cX9_down 60 = .ok (.if_icmp .gt 28, 3) := by decide +kernel
theorem dX9_down_63 : decode cX9_down 63 = .ok (.iload 4, 2) := by decide +kernel
theorem dX9_down_65 : decode cX9_down 65 = .ok (.iconst (-1), 1) := by decide +kernel
theorem dX9_down_66 : decode cX9_down 66 = .ok (.if_icmp .eq 18, 3) := by decide +kernel
theorem dX9_down_69 : decode cX9_down 69 = .ok (.iload 6, 2) := by decide +kernel
theorem dX9_down_71 : decode cX9_down 71 = .ok (.aload_n 0, 1) := by decide +kernel
theorem dX9_down_72 : decode cX9_down 72 = .ok (.getfield 12, 3) := by decide +kernel
theorem dX9_down_75 : decode cX9_down 75 = .ok (.getfield 320, 3) := by decide +kernel
theorem dX9_down_78 : decode cX9_down 78 = .ok (.iload 4, 2) := by decide +kernel
theorem dX9_down_80 : decode cX9_down 80 = .ok (.iaload, 1) := by decide +kernel
theorem dX9_down_81 : decode cX9_down 81 = .ok (.if_icmp .le 7, 3) := by decide +kernel
theorem dX9_down_84 : decode cX9_down 84 = .ok (.iload 5, 2) := by decide +kernel
theorem dX9_down_86 : decode cX9_down 86 = .ok (.istore 4, 2) := by decide +kernel
theorem dX9_down_88 : decode cX9_down 88 = .ok (.iinc 5 1, 3) := by decide +kernel
theorem dX9_down_91 : decode cX9_down 91 = .ok (.goto (-58), 3) := by decide +kernel
theorem dX9_down_94 : decode cX9_down 94 = .ok (.iload 4, 2) := by decide +kernel
theorem dX9_down_96 : decode cX9_down 96 = .ok (.ireturn, 1) := by decide +kernel
theorem dX9_enough_0 : decode cX9_enough 0 = .ok (.aload_n 0, 1) := by decide +kernel
theorem dX9_enough_1 : decode cX9_enough 1 = .ok (.iload_n 1, 1) := by decide +kernel
theorem dX9_enough_2 : decode cX9_enough 2 = .ok (.invokevirtual 78, 3) := by decide +kernel
theorem dX9_enough_5 : decode cX9_enough 5 = .ok (.astore 4, 2) := by decide +kernel
theorem dX9_enough_7 : decode cX9_enough 7 = .ok (.aload 4, 2) := by decide +kernel
theorem dX9_enough_9 : decode cX9_enough 9 = .ok (.ifnull 29, 3) := by decide +kernel
theorem dX9_enough_12 : decode cX9_enough 12 = .ok (.aload 4, 2) := by decide +kernel
theorem dX9_enough_14 : decode cX9_enough 14 = .ok (.iload_n 2, 1) := by decide +kernel
theorem dX9_enough_15 : decode cX9_enough 15 = .ok (.invokevirtual 82, 3) := by decide +kernel
theorem dX9_enough_18 : decode cX9_enough 18 = .ok (.ifCond .eq 20, 3) := by decide +kernel
theorem dX9_enough_21 : decode cX9_enough 21 = .ok (.iload_n 3, 1) := by decide +kernel
theorem dX9_enough_22 : decode cX9_enough 22 = .ok (.invokestatic 150, 3) := by decide +kernel
theorem dX9_enough_25 : decode cX9_enough 25 = .ok (.ifCond .eq 13, 3) := by decide +kernel
theorem dX9_enough_28 : decode cX9_enough 28 = .ok (.aload 4, 2) := by decide +kernel
theorem dX9_enough_30 : decode cX9_enough 30 = .ok (.getfield 181, 3) := by decide +kernel
theorem dX9_enough_33 : decode cX9_enough 33 = .ok (.iload_n 3, 1) := by decide +kernel
theorem dX9_enough_34 : decode cX9_enough 34 = .ok (.iaload, 1) := by decide +kernel
theorem dX9_enough_35 : decode cX9_enough 35 = .ok (.ifCond .ne 5, 3) := by decide +kernel
theorem dX9_enough_38 : decode cX9_enough 38 = .ok (.iconst (-1), 1) := by decide +kernel
theorem dX9_enough_39 : decode cX9_enough 39 = .ok (.ireturn, 1) := by decide +kernel
theorem dX9_enough_40 : decode cX9_enough 40 = .ok (.aload_n 0, 1) := by decide +kernel
theorem dX9_enough_41 : decode cX9_enough 41 = .ok (.getfield 30, 3) := by decide +kernel
theorem dX9_enough_44 : decode cX9_enough 44 = .ok (.aload_n 0, 1) := by decide +kernel
theorem dX9_enough_45 : decode cX9_enough 45 = .ok (.getfield 12, 3) := by decide +kernel
theorem dX9_enough_48 : decode cX9_enough 48 = .ok (.invokevirtual 212, 3) := by decide +kernel
theorem dX9_enough_51 : decode cX9_enough 51 = .ok (.iconst 0, 1) := by decide +kernel
theorem dX9_enough_52 : decode cX9_enough 52 = .ok (.iload_n 3, 1) := by decide +kernel
theorem dX9_enough_53 : decode cX9_enough 53 = .ok (.aload 4, 2) := by decide +kernel
theorem dX9_enough_55 : decode cX9_enough 55 = .ok (.iload_n 2, 1) := by decide +kernel
theorem dX9_enough_56 : decode cX9_enough 56 = .ok (.invokevirtual 341, 3) := by decide +kernel
theorem dX9_enough_59 : decode cX9_enough 59 = .ok (.istore 5, 2) := by decide +kernel
theorem dX9_enough_61 : decode cX9_enough 61 = .ok (.aload_n 0, 1) := by decide +kernel
theorem dX9_enough_62 : decode cX9_enough 62 = .ok (.getfield 30, 3) := by decide +kernel
theorem dX9_enough_65 : decode cX9_enough 65 = .ok (.aload_n 0, 1) := by decide +kernel
theorem dX9_enough_66 : decode cX9_enough 66 = .ok (.getfield 12, 3) := by decide +kernel
theorem dX9_enough_69 : decode cX9_enough 69 = .ok (.invokevirtual 212, 3) := by decide +kernel
theorem dX9_enough_72 : decode cX9_enough 72 = .ok (.iconst 1, 1) := by decide +kernel
theorem dX9_enough_73 : decode cX9_enough 73 = .ok (.iload_n 3, 1) := by decide +kernel
theorem dX9_enough_74 : decode cX9_enough 74 = .ok (.aload 4, 2) := by decide +kernel
theorem dX9_enough_76 : decode cX9_enough 76 = .ok (.iload_n 2, 1) := by decide +kernel
theorem dX9_enough_77 : decode cX9_enough 77 = .ok (.invokevirtual 341, 3) := by decide +kernel
theorem dX9_enough_80 : decode cX9_enough 80 = .ok (.istore 6, 2) := by decide +kernel
theorem dX9_enough_82 : decode cX9_enough 82 = .ok (.aload 4, 2) := by decide +kernel
theorem dX9_enough_84 : decode cX9_enough 84 = .ok (.getfield 102, 3) := by decide +kernel
theorem dX9_enough_87 : decode cX9_enough 87 = .ok (.iload_n 2, 1) := by decide +kernel
theorem dX9_enough_88 : decode cX9_enough 88 = .ok (.iaload, 1) := by decide +kernel
theorem dX9_enough_89 : decode cX9_enough 89 = .ok (.istore 7, 2) := by decide +kernel
theorem dX9_enough_91 : decode cX9_enough 91 = .ok (.iload 7, 2) := by decide +kernel
theorem dX9_enough_93 : decode cX9_enough 93 = .ok (.bipush 99, 2) := by decide +kernel
theorem dX9_enough_95 : decode cX9_enough 95 = .ok (.if_icmp .gt 101, 3) := by decide +kernel
theorem dX9_enough_98 : decode cX9_enough 98 = .ok (.aload_n 0, 1) := by decide +kernel
theorem dX9_enough_99 : decode cX9_enough 99 = .ok (.getfield 30, 3) := by decide +kernel
theorem dX9_enough_102 : decode cX9_enough 102 = .ok (.aload 4, 2) := by decide +kernel
theorem dX9_enough_104 : decode cX9_enough 104 = .ok (.iload_n 2, 1) := by decide +kernel
theorem dX9_enough_105 : decode cX9_enough 105 = .ok (.aload 4, 2) := by decide +kernel
theorem dX9_enough_107 : decode cX9_enough 107 = .ok (.getfield 93, 3) := by decide +kernel
theorem dX9_enough_110 : decode cX9_enough 110 = .ok (.iload_n 2, 1) := by decide +kernel
theorem dX9_enough_111 : decode cX9_enough 111 = .ok (.iaload, 1) := by decide +kernel
theorem dX9_enough_112 : decode cX9_enough 112 = .ok (.aload 4, 2) := by decide +kernel
theorem dX9_enough_114 : decode cX9_enough 114 = .ok (.getfield 96, 3) := by decide +kernel
theorem dX9_enough_117 : decode cX9_enough 117 = .ok (.iload_n 2, 1) := by decide +kernel
theorem dX9_enough_118 : decode cX9_enough 118 = .ok (.iaload, 1) := by decide +kernel
theorem dX9_enough_119 : decode cX9_enough 119 = .ok (.iload 7, 2) := by decide +kernel
theorem dX9_enough_121 : decode cX9_enough 121 = .ok (.invokevirtual 154, 3) := by decide +kernel
theorem dX9_enough_124 : decode cX9_enough 124 = .ok (.iload 5, 2) := by decide +kernel
theorem dX9_enough_126 : decode cX9_enough 126 = .ok (.aload_n 0, 1) := by decide +kernel
theorem dX9_enough_127 : decode cX9_enough 127 = .ok (.getfield 30, 3) := by decide +kernel
theorem dX9_enough_130 : decode cX9_enough 130 = .ok (.aload_n 0, 1) := by decide +kernel
theorem dX9_enough_131 : decode cX9_enough 131 = .ok (.getfield 12, 3) := by decide +kernel
theorem dX9_enough_134 : decode cX9_enough 134 = .ok (.invokevirtual 212, 3) := by decide +kernel
theorem dX9_enough_137 : decode cX9_enough 137 = .ok (.iconst 0, 1) := by decide +kernel
end
section
theorem dX9_enough_138 : decode cX9_enough 138 = .ok (.iload_n 3, 1) := by decide +kernel
theorem dX9_enough_139 : decode cX9_enough 139 = .ok (.invokevirtual 162, 3) := by decide +kernel
theorem dX9_enough_142 : decode cX9_enough 142 = .ok (.iadd, 1) := by decide +kernel
theorem dX9_enough_143 : decode cX9_enough 143 = .ok (.iload 6, 2) := by decide +kernel
theorem dX9_enough_145 : decode cX9_enough 145 = .ok (.aload_n 0, 1) := by decide +kernel
theorem dX9_enough_146 : decode cX9_enough 146 = .ok (.getfield 30, 3) := by decide +kernel
theorem dX9_enough_149 : decode cX9_enough 149 = .ok (.aload_n 0, 1) := by decide +kernel
theorem dX9_enough_150 : decode cX9_enough 150 = .ok (.getfield 12, 3) := by decide +kernel
theorem dX9_enough_153 : decode cX9_enough 153 = .ok (.invokevirtual 212, 3) := by decide +kernel
theorem dX9_enough_156 : decode cX9_enough 156 = .ok (.iconst 1, 1) := by decide +kernel
theorem dX9_enough_157 : decode cX9_enough 157 = .ok (.iload_n 3, 1) := by decide +kernel
theorem dX9_enough_158 : decode cX9_enough 158 = .ok (.invokevirtual 162, 3) := by decide +kernel
theorem dX9_enough_161 : decode cX9_enough 161 = .ok (.iadd, 1) := by decide +kernel
theorem dX9_enough_162 : decode cX9_enough 162 = .ok (.invokestatic 345, 3) := by decide +kernel
theorem dX9_enough_165 : decode cX9_enough 165 = .ok (.istore 8, 2) := by decide +kernel
theorem dX9_enough_167 : decode cX9_enough 167 = .ok (.iload 8, 2) := by decide +kernel
theorem dX9_enough_169 : decode cX9_enough 169 = .ok (.aload 4, 2) := by decide +kernel
theorem dX9_enough_171 : decode cX9_enough 171 = .ok (.getfield 181, 3) := by decide +kernel
theorem dX9_enough_174 : decode cX9_enough 174 = .ok (.iload_n 3, 1) := by decide +kernel
theorem dX9_enough_175 : decode cX9_enough 175 = .ok (.iaload, 1) := by decide +kernel
theorem dX9_enough_176 : decode cX9_enough 176 = .ok (.aload_n 0, 1) := by decide +kernel
theorem dX9_enough_177 : decode cX9_enough 177 = .ok (.getfield 12, 3) := by decide +kernel
theorem dX9_enough_180 : decode cX9_enough 180 = .ok (.getfield 184, 3) := by decide +kernel
theorem dX9_enough_183 : decode cX9_enough 183 = .ok (.iadd, 1) := by decide +kernel
theorem dX9_enough_184 : decode cX9_enough 184 = .ok (.if_icmp .gt 6, 3) := by decide +kernel
theorem dX9_enough_187 : decode cX9_enough 187 = .ok (.iload 7, 2) := by decide +kernel
theorem dX9_enough_189 : decode cX9_enough 189 = .ok (.ireturn, 1) := by decide +kernel
theorem dX9_enough_190 : decode cX9_enough 190 = .ok (.iinc 7 1, 3) := by decide +kernel
theorem dX9_enough_193 : decode cX9_enough 193 = .ok (.goto (-102), 3) := by decide +kernel
theorem dX9_enough_196 : decode cX9_enough 196 = .ok (.iconst (-1), 1) := by decide +kernel
theorem dX9_enough_197 : decode cX9_enough 197 = .ok (.ireturn, 1) := by decide +kernel
theorem dX9_image_0 : decode cX9_image 0 = .ok (.iload_n 1, 1) := by decide +kernel
theorem dX9_image_1 : decode cX9_image 1 = .ok (.ifCond .eq 35, 3) := by decide +kernel
theorem dX9_image_4 : decode cX9_image 4 = .ok (.aload_n 0, 1) := by decide +kernel
theorem dX9_image_5 : decode cX9_image 5 = .ok (.getfield 348, 3) := by decide +kernel
theorem dX9_image_8 : decode cX9_image 8 = .ok (.ifnonnull 14, 3) := by decide +kernel
theorem dX9_image_11 : decode cX9_image 11 = .ok (.aload_n 0, 1) := by decide +kernel
theorem dX9_image_12 : decode cX9_image 12 = .ok (.new 9, 3) := by decide +kernel
theorem dX9_image_15 : decode cX9_image 15 = .ok (.dup, 1) := by decide +kernel
theorem dX9_image_16 : decode cX9_image 16 = .ok (.invokespecial 11, 3) := by decide +kernel
theorem dX9_image_19 : decode cX9_image 19 = .ok (.putfield 348, 3) := by decide +kernel
theorem dX9_image_22 : decode cX9_image 22 = .ok (.aload_n 0, 1) := by decide +kernel
theorem dX9_image_23 : decode cX9_image 23 = .ok (.getfield 348, 3) := by decide +kernel
theorem dX9_image_26 : decode cX9_image 26 = .ok (.aload_n 0, 1) := by decide +kernel
theorem dX9_image_27 : decode cX9_image 27 = .ok (.getfield 12, 3) := by decide +kernel
theorem dX9_image_30 : decode cX9_image 30 = .ok (.invokevirtual 351, 3) := by decide +kernel
theorem dX9_image_33 : decode cX9_image 33 = .ok (.goto 21, 3) := by decide +kernel
theorem dX9_image_36 : decode cX9_image 36 = .ok (.aload_n 0, 1) := by decide +kernel
theorem dX9_image_37 : decode cX9_image 37 = .ok (.getfield 348, 3) := by decide +kernel
theorem dX9_image_40 : decode cX9_image 40 = .ok (.ifnull 14, 3) := by decide +kernel
theorem dX9_image_43 : decode cX9_image 43 = .ok (.aload_n 0, 1) := by decide +kernel
theorem dX9_image_44 : decode cX9_image 44 = .ok (.getfield 12, 3) := by decide +kernel
theorem dX9_image_47 : decode cX9_image 47 = .ok (.aload_n 0, 1) := by decide +kernel
theorem dX9_image_48 : decode cX9_image 48 = .ok (.getfield 348, 3) := by decide +kernel
theorem dX9_image_51 : decode cX9_image 51 = .ok (.invokevirtual 351, 3) := by decide +kernel
theorem dX9_image_54 : decode cX9_image 54 = .ok (.aload_n 0, 1) := by decide +kernel
theorem dX9_image_55 : decode cX9_image 55 = .ok (.getfield 348, 3) := by decide +kernel
theorem dX9_image_58 : decode cX9_image 58 = .ok (.ifnull 7, 3) := by decide +kernel
theorem dX9_image_61 : decode cX9_image 61 = .ok (.iconst 1, 1) := by decide +kernel
theorem dX9_image_62 : decode cX9_image 62 = .ok (.goto 4, 3) := by decide +kernel
theorem dX9_image_65 : decode cX9_image 65 = .ok (.iconst 0, 1) := by decide +kernel
theorem dX9_image_66 : decode cX9_image 66 = .ok (.ireturn, 1) := by decide +kernel
theorem dX9_look_0 : decode cX9_look 0 = .ok (.iload_n 1, 1) := by decide +kernel
theorem dX9_look_1 : decode cX9_look 1 = .ok (.tableswitch 105 0 7 #[47, 55, 63, 71, 79, 87, 95, 100], 47) := by decide +kernel
theorem dX9_look_48 : decode cX9_look 48 = .ok (.aload_n 0, 1) := by decide +kernel
theorem dX9_look_49 : decode cX9_look 49 = .ok (.getfield 12, 3) := by decide +kernel
theorem dX9_look_52 : decode cX9_look 52 = .ok (.getfield 64, 3) := by decide +kernel
theorem dX9_look_55 : decode cX9_look 55 = .ok (.ireturn, 1) := by decide +kernel
theorem dX9_look_56 : decode cX9_look 56 = .ok (.aload_n 0, 1) := by decide +kernel
theorem dX9_look_57 : decode cX9_look 57 = .ok (.getfield 12, 3) := by decide +kernel
theorem dX9_look_60 : decode cX9_look 60 = .ok (.getfield 293, 3) := by decide +kernel
theorem dX9_look_63 : decode cX9_look 63 = .ok (.ireturn, 1) := by decide +kernel
theorem dX9_look_64 : decode cX9_look 64 = .ok (.aload_n 0, 1) := by decide +kernel
theorem dX9_look_65 : decode cX9_look 65 = .ok (.getfield 12, 3) := by decide +kernel
theorem dX9_look_68 : decode cX9_look 68 = .ok (.getfield 317, 3) := by decide +kernel
theorem dX9_look_71 : decode cX9_look 71 = .ok (.ireturn, 1) := by decide +kernel
theorem dX9_look_72 : decode cX9_look 72 = .ok (.aload_n 0, 1) := by decide +kernel
theorem dX9_look_73 : decode cX9_look 73 = .ok (.getfield 12, 3) := by decide +kernel
theorem dX9_look_76 : decode cX9_look 76 = .ok (.getfield 326, 3) := by decide +kernel
theorem dX9_look_79 : decode cX9_look 79 = .ok (.ireturn, 1) := by decide +kernel
theorem dX9_look_80 : decode cX9_look 80 = .ok (.aload_n 0, 1) := by decide +kernel
theorem dX9_look_81 : decode cX9_look 81 = .ok (.getfield 12, 3) := by decide +kernel
theorem dX9_look_84 : decode cX9_look 84 = .ok (.getfield 184, 3) := by decide +kernel
theorem dX9_look_87 : decode cX9_look 87 = .ok (.ireturn, 1) := by decide +kernel
theorem dX9_look_88 : decode cX9_look 88 = .ok (.aload_n 0, 1) := by decide +kernel
theorem dX9_look_89 : decode cX9_look 89 = .ok (.getfield 12, 3) := by decide +kernel
theorem dX9_look_92 : decode cX9_look 92 = .ok (.getfield 147, 3) := by decide +kernel
theorem dX9_look_95 : decode cX9_look 95 = .ok (.ireturn, 1) := by decide +kernel
theorem dX9_look_96 : decode cX9_look 96 = .ok (.aload_n 0, 1) := by decide +kernel
theorem dX9_look_97 : decode cX9_look 97 = .ok (.invokevirtual 354, 3) := by decide +kernel
theorem dX9_look_100 : decode cX9_look 100 = .ok (.ireturn, 1) := by decide +kernel
theorem dX9_look_101 : decode cX9_look 101 = .ok (.aload_n 0, 1) := by decide +kernel
theorem dX9_look_102 : decode cX9_look 102 = .ok (.invokevirtual 357, 3) := by decide +kernel
theorem dX9_look_105 : decode cX9_look 105 = .ok (.ireturn, 1) := by decide +kernel
theorem dX9_look_106 : decode cX9_look 106 = .ok (.iconst (-1), 1) := by decide +kernel
theorem dX9_look_107 : decode cX9_look 107 = .ok (.ireturn, 1) := by decide +kernel
theorem dX9_within_0 : decode cX9_within 0 = .ok (.iload_n 0, 1) := by decide +kernel
theorem dX9_within_1 : decode cX9_within 1 = .ok (.iload_n 1, 1) := by decide +kernel
theorem dX9_within_2 : decode cX9_within 2 = .ok (.if_icmp .lt 12, 3) := by decide +kernel
theorem dX9_within_5 : decode cX9_within 5 = .ok (.iload_n 0, 1) := by decide +kernel
theorem dX9_within_6 : decode cX9_within 6 = .ok (.iload_n 2, 1) := by decide +kernel
theorem dX9_within_7 : decode cX9_within 7 = .ok (.if_icmp .gt 7, 3) := by decide +kernel
theorem dX9_within_10 : decode cX9_within 10 = .ok (.iconst 1, 1) := by decide +kernel
theorem dX9_within_11 : decode cX9_within 11 = .ok (.goto 4, 3) := by decide +kernel
theorem dX9_within_14 : decode cX9_within 14 = .ok (.iconst 0, 1) := by decide +kernel
theorem dX9_within_15 : decode cX9_within 15 = .ok (.ireturn, 1) := by decide +kernel
theorem dX9_isTone_0 : decode cX9_isTone 0 = .ok (.iload_n 0, 1) := by decide +kernel
theorem dX9_isTone_1 : decode cX9_isTone 1 = .ok (.iconst 0, 1) := by decide +kernel
theorem dX9_isTone_2 : decode cX9_isTone 2 = .ok (.iconst 2, 1) := by decide +kernel
theorem dX9_isTone_3 : decode cX9_isTone 3 = .ok (.invokestatic 89, 3) := by decide +kernel
theorem dX9_isTone_6 : decode cX9_isTone 6 = .ok (.ireturn, 1) := by decide +kernel
theorem dX9_isAir_0 : decode cX9_isAir 0 = .ok (.iload_n 0, 1) := by decide +kernel
theorem dX9_isAir_1 : decode cX9_isAir 1 = .ok (.bipush (-20), 2) := by decide +kernel
theorem dX9_isAir_3 : decode cX9_isAir 3 = .ok (.bipush 50, 2) := by decide +kernel
theorem dX9_isAir_5 : decode cX9_isAir 5 = .ok (.invokestatic 89, 3) := by decide +kernel
theorem dX9_isAir_8 : decode cX9_isAir 8 = .ok (.ifCond .eq 17, 3) := by decide +kernel
theorem dX9_isAir_11 : decode cX9_isAir 11 = .ok (.iload_n 1, 1) := by decide +kernel
theorem dX9_isAir_12 : decode cX9_isAir 12 = .ok (.iconst 0, 1) := by decide +kernel
theorem dX9_isAir_13 : decode cX9_isAir 13 = .ok (.bipush 99, 2) := by decide +kernel
theorem dX9_isAir_15 : decode cX9_isAir 15 = .ok (.invokestatic 89, 3) := by decide +kernel
theorem dX9_isAir_18 : decode cX9_isAir 18 = .ok (.ifCond .eq 7, 3) := by decide +kernel
theorem dX9_isAir_21 : decode cX9_isAir 21 = .ok (.iconst 1, 1) := by decide +kernel
theorem dX9_isAir_22 : decode cX9_isAir 22 = .ok (.goto 4, 3) := by decide +kernel
theorem dX9_isAir_25 : decode cX9_isAir 25 = .ok (.iconst 0, 1) := by decide +kernel
theorem dX9_isAir_26 : decode cX9_isAir 26 = .ok (.ireturn, 1) := by decide +kernel
theorem dX9_barAt_0 : decode cX9_barAt 0 = .ok (.iload_n 1, 1) := by decide +kernel
theorem dX9_barAt_1 : decode cX9_barAt 1 = .ok (.iconst 0, 1) := by decide +kernel
theorem dX9_barAt_2 : decode cX9_barAt 2 = .ok (.aload_n 0, 1) := by decide +kernel
theorem dX9_barAt_3 : decode cX9_barAt 3 = .ok (.getfield 12, 3) := by decide +kernel
theorem dX9_barAt_6 : decode cX9_barAt 6 = .ok (.getfield 64, 3) := by decide +kernel
theorem dX9_barAt_9 : decode cX9_barAt 9 = .ok (.iconst 1, 1) := by decide +kernel
theorem dX9_barAt_10 : decode cX9_barAt 10 = .ok (.isub, 1) := by decide +kernel
theorem dX9_barAt_11 : decode cX9_barAt 11 = .ok (.invokestatic 89, 3) := by decide +kernel
theorem dX9_barAt_14 : decode cX9_barAt 14 = .ok (.ifCond .eq 15, 3) := by decide +kernel
theorem dX9_barAt_17 : decode cX9_barAt 17 = .ok (.aload_n 0, 1) := by decide +kernel
theorem dX9_barAt_18 : decode cX9_barAt 18 = .ok (.getfield 12, 3) := by decide +kernel
theorem dX9_barAt_21 : decode cX9_barAt 21 = .ok (.getfield 68, 3) := by decide +kernel
theorem dX9_barAt_24 : decode cX9_barAt 24 = .ok (.iload_n 1, 1) := by decide +kernel
theorem dX9_barAt_25 : decode cX9_barAt 25 = .ok (.aaload, 1) := by decide +kernel
theorem dX9_barAt_26 : decode cX9_barAt 26 = .ok (.goto 4, 3) := by decide +kernel
theorem dX9_barAt_29 : decode cX9_barAt 29 = .ok (.aconst_null, 1) := by decide +kernel
theorem dX9_barAt_30 : decode cX9_barAt 30 = .ok (.areturn, 1) := by decide +kernel
theorem dX9_textAt_0 : decode cX9_textAt 0 = .ok (.iload_n 1, 1) := by decide +kernel
theorem dX9_textAt_1 : decode cX9_textAt 1 = .ok (.ifCond .ne 22, 3) := by decide +kernel
theorem dX9_textAt_4 : decode cX9_textAt 4 = .ok (.iload_n 2, 1) := by decide +kernel
theorem dX9_textAt_5 : decode cX9_textAt 5 = .ok (.iconst 0, 1) := by decide +kernel
theorem dX9_textAt_6 : decode cX9_textAt 6 = .ok (.iconst 1, 1) := by decide +kernel
theorem dX9_textAt_7 : decode cX9_textAt 7 = .ok (.invokestatic 89, 3) := by decide +kernel
theorem dX9_textAt_10 : decode cX9_textAt 10 = .ok (.ifCond .eq 13, 3) := by decide +kernel
theorem dX9_textAt_13 : decode cX9_textAt 13 = .ok (.aload_n 0, 1) := by decide +kernel
theorem dX9_textAt_14 : decode cX9_textAt 14 = .ok (.getfield 12, 3) := by decide +kernel
theorem dX9_textAt_17 : decode cX9_textAt 17 = .ok (.getfield 158, 3) := by decide +kernel
theorem dX9_textAt_20 : decode cX9_textAt 20 = .ok (.iload_n 2, 1) := by decide +kernel
theorem dX9_textAt_21 : decode cX9_textAt 21 = .ok (.aaload, 1) := by decide +kernel
theorem dX9_textAt_22 : decode cX9_textAt 22 = .ok (.areturn, 1) := by decide +kernel
theorem dX9_textAt_23 : decode cX9_textAt 23 = .ok (.iload_n 1, 1) := by decide +kernel
theorem dX9_textAt_24 : decode cX9_textAt 24 = .ok (.iconst 1, 1) := by decide +kernel
theorem dX9_textAt_25 : decode cX9_textAt 25 = .ok (.if_icmp .ne 24, 3) := by decide +kernel
theorem dX9_textAt_28 : decode cX9_textAt 28 = .ok (.iload_n 2, 1) := by decide +kernel
theorem dX9_textAt_29 : decode cX9_textAt 29 = .ok (.iconst 0, 1) := by decide +kernel
theorem dX9_textAt_30 : decode cX9_textAt 30 = .ok (.iconst 3, 1) := by decide +kernel
theorem dX9_textAt_31 : decode cX9_textAt 31 = .ok (.invokestatic 89, 3) := by decide +kernel
theorem dX9_textAt_34 : decode cX9_textAt 34 = .ok (.ifCond .eq 15, 3) := by decide +kernel
theorem dX9_textAt_37 : decode cX9_textAt 37 = .ok (.aload_n 0, 1) := by decide +kernel
theorem dX9_textAt_38 : decode cX9_textAt 38 = .ok (.getfield 12, 3) := by decide +kernel
theorem dX9_textAt_41 : decode cX9_textAt 41 = .ok (.getfield 220, 3) := by decide +kernel
theorem dX9_textAt_44 : decode cX9_textAt 44 = .ok (.iload_n 2, 1) := by decide +kernel
theorem dX9_textAt_45 : decode cX9_textAt 45 = .ok (.aaload, 1) := by decide +kernel
theorem dX9_textAt_46 : decode cX9_textAt 46 = .ok (.goto 4, 3) := by decide +kernel
theorem dX9_textAt_49 : decode cX9_textAt 49 = .ok (.aconst_null, 1) := by decide +kernel
theorem dX9_textAt_50 : decode cX9_textAt 50 = .ok (.areturn, 1) := by decide +kernel
theorem dX9_addBytes_0 : decode cX9_addBytes 0 = .ok (.bipush 24, 2) := by decide +kernel
theorem dX9_addBytes_2 : decode cX9_addBytes 2 = .ok (.istore_n 2, 1) := by decide +kernel
theorem dX9_addBytes_3 : decode cX9_addBytes 3 = .ok (.iload_n 2, 1) := by decide +kernel
theorem dX9_addBytes_4 : decode cX9_addBytes 4 = .ok (.ifCond .lt 45, 3) := by decide +kernel
theorem dX9_addBytes_7 : decode cX9_addBytes 7 = .ok (.aload_n 0, 1) := by decide +kernel
theorem dX9_addBytes_8 : decode cX9_addBytes 8 = .ok (.getfield 105, 3) := by decide +kernel
theorem dX9_addBytes_11 : decode cX9_addBytes 11 = .ok (.sipush 500, 3) := by decide +kernel
theorem dX9_addBytes_14 : decode cX9_addBytes 14 = .ok (.if_icmp .ge 35, 3) := by decide +kernel
theorem dX9_addBytes_17 : decode cX9_addBytes 17 = .ok (.aload_n 0, 1) := by decide +kernel
theorem dX9_addBytes_18 : decode cX9_addBytes 18 = .ok (.getfield 16, 3) := by decide +kernel
theorem dX9_addBytes_21 : decode cX9_addBytes 21 = .ok (.aload_n 0, 1) := by decide +kernel
theorem dX9_addBytes_22 : decode cX9_addBytes 22 = .ok (.getfield 105, 3) := by decide +kernel
theorem dX9_addBytes_25 : decode cX9_addBytes 25 = .ok (.iload_n 1, 1) := by decide +kernel
theorem dX9_addBytes_26 : decode cX9_addBytes 26 = .ok (.iload_n 2, 1) := by decide +kernel
theorem dX9_addBytes_27 : decode cX9_addBytes 27 = .ok (.iushr, 1) := by decide +kernel
theorem dX9_addBytes_28 : decode cX9_addBytes 28 = .ok (.sipush 255, 3) := by decide +kernel
theorem dX9_addBytes_31 : decode cX9_addBytes 31 = .ok (.iand, 1) := by decide +kernel
theorem dX9_addBytes_32 : decode cX9_addBytes 32 = .ok (.iastore, 1) := by decide +kernel
theorem dX9_addBytes_33 : decode cX9_addBytes 33 = .ok (.aload_n 0, 1) := by decide +kernel
theorem dX9_addBytes_34 : decode cX9_addBytes 34 = .ok (.dup, 1) := by decide +kernel
theorem dX9_addBytes_35 : decode cX9_addBytes 35 = .ok (.getfield 105, 3) := by decide +kernel
theorem dX9_addBytes_38 : decode cX9_addBytes 38 = .ok (.iconst 1, 1) := by decide +kernel
theorem dX9_addBytes_39 : decode cX9_addBytes 39 = .ok (.iadd, 1) := by decide +kernel
theorem dX9_addBytes_40 : decode cX9_addBytes 40 = .ok (.putfield 105, 3) := by decide +kernel
theorem dX9_addBytes_43 : decode cX9_addBytes 43 = .ok (.iinc 2 (-8), 3) := by decide +kernel
theorem dX9_addBytes_46 : decode cX9_addBytes 46 = .ok (.goto (-43), 3) := by decide +kernel
theorem dX9_addBytes_49 : decode cX9_addBytes 49 = .ok (.return_, 1) := by decide +kernel
theorem dX9_countLost_0 : decode cX9_countLost 0 = .ok (.iconst 0, 1) := by decide +kernel
theorem dX9_countLost_1 : decode cX9_countLost 1 = .ok (.istore_n 1, 1) := by decide +kernel
theorem dX9_countLost_2 : decode cX9_countLost 2 = .ok (.iconst 0, 1) := by decide +kernel
theorem dX9_countLost_3 : decode cX9_countLost 3 = .ok (.istore_n 2, 1) := by decide +kernel
theorem dX9_countLost_4 : decode cX9_countLost 4 = .ok (.iload_n 2, 1) := by decide +kernel
theorem dX9_countLost_5 : decode cX9_countLost 5 = .ok (.aload_n 0, 1) := by decide +kernel
theorem dX9_countLost_6 : decode cX9_countLost 6 = .ok (.getfield 12, 3) := by decide +kernel
theorem dX9_countLost_9 : decode cX9_countLost 9 = .ok (.getfield 64, 3) := by decide +kernel
theorem dX9_countLost_12 : decode cX9_countLost 12 = .ok (.if_icmp .ge 33, 3) := by decide +kernel
theorem dX9_countLost_15 : decode cX9_countLost 15 = .ok (.iload_n 1, 1) := by decide +kernel
theorem dX9_countLost_16 : decode cX9_countLost 16 = .ok (.aload_n 0, 1) := by decide +kernel
theorem dX9_countLost_17 : decode cX9_countLost 17 = .ok (.aload_n 0, 1) := by decide +kernel
theorem dX9_countLost_18 : decode cX9_countLost 18 = .ok (.getfield 12, 3) := by decide +kernel
theorem dX9_countLost_21 : decode cX9_countLost 21 = .ok (.getfield 68, 3) := by decide +kernel
theorem dX9_countLost_24 : decode cX9_countLost 24 = .ok (.iload_n 2, 1) := by decide +kernel
theorem dX9_countLost_25 : decode cX9_countLost 25 = .ok (.aaload, 1) := by decide +kernel
theorem dX9_countLost_26 : decode cX9_countLost 26 = .ok (.invokevirtual 190, 3) := by decide +kernel
theorem dX9_countLost_29 : decode cX9_countLost 29 = .ok (.ifCond .eq 7, 3) := by decide +kernel
theorem dX9_countLost_32 : decode cX9_countLost 32 = .ok (.iconst 1, 1) := by decide +kernel
theorem dX9_countLost_33 : decode cX9_countLost 33 = .ok (.goto 4, 3) := by decide +kernel
theorem dX9_countLost_36 : decode cX9_countLost 36 = .ok (.iconst 0, 1) := by decide +kernel
theorem dX9_countLost_37 : decode cX9_countLost 37 = .ok (.iadd, 1) := by decide +kernel
theorem dX9_countLost_38 : decode cX9_countLost 38 = .ok (.istore_n 1, 1) := by decide +kernel
theorem dX9_countLost_39 : decode cX9_countLost 39 = .ok (.iinc 2 1, 3) := by decide +kernel
theorem dX9_countLost_42 : decode cX9_countLost 42 = .ok (.goto (-38), 3) := by decide +kernel
theorem dX9_countLost_45 : decode cX9_countLost 45 = .ok (.iload_n 1, 1) := by decide +kernel
theorem dX9_countLost_46 : decode cX9_countLost 46 = .ok (.ireturn, 1) := by decide +kernel
theorem dX9_countTrue_0 : decode cX9_countTrue 0 = .ok (.iconst 0, 1) := by decide +kernel
theorem dX9_countTrue_1 : decode cX9_countTrue 1 = .ok (.istore_n 1, 1) := by decide +kernel
theorem dX9_countTrue_2 : decode cX9_countTrue 2 = .ok (.iconst 0, 1) := by decide +kernel
theorem dX9_countTrue_3 : decode cX9_countTrue 3 = .ok (.istore_n 2, 1) := by decide +kernel
theorem dX9_countTrue_4 : decode cX9_countTrue 4 = .ok (.iload_n 2, 1) := by decide +kernel
theorem dX9_countTrue_5 : decode cX9_countTrue 5 = .ok (.aload_n 0, 1) := by decide +kernel
theorem dX9_countTrue_6 : decode cX9_countTrue 6 = .ok (.getfield 12, 3) := by decide +kernel
theorem dX9_countTrue_9 : decode cX9_countTrue 9 = .ok (.getfield 64, 3) := by decide +kernel
theorem dX9_countTrue_12 : decode cX9_countTrue 12 = .ok (.if_icmp .ge 33, 3) := by decide +kernel
theorem dX9_countTrue_15 : decode cX9_countTrue 15 = .ok (.iload_n 1, 1) := by decide +kernel
theorem dX9_countTrue_16 : decode cX9_countTrue 16 = .ok (.aload_n 0, 1) := by decide +kernel
theorem dX9_countTrue_17 : decode cX9_countTrue 17 = .ok (.aload_n 0, 1) := by decide +kernel
theorem dX9_countTrue_18 : decode cX9_countTrue 18 = .ok (.getfield 12, 3) := by decide +kernel
theorem dX9_countTrue_21 : decode cX9_countTrue 21 = .ok (.getfield 68, 3) := by decide +kernel
theorem dX9_countTrue_24 : decode cX9_countTrue 24 = .ok (.iload_n 2, 1) := by decide +kernel
theorem dX9_countTrue_25 : decode cX9_countTrue 25 = .ok (.aaload, 1) := by decide +kernel
theorem dX9_countTrue_26 : decode cX9_countTrue 26 = .ok (.invokevirtual 194, 3) := by decide +kernel
theorem dX9_countTrue_29 : decode cX9_countTrue 29 = .ok (.ifCond .eq 7, 3) := by decide +kernel
theorem dX9_countTrue_32 : decode cX9_countTrue 32 = .ok (.iconst 1, 1) := by decide +kernel
theorem dX9_countTrue_33 : decode cX9_countTrue 33 = .ok (.goto 4, 3) := by decide +kernel
theorem dX9_countTrue_36 : decode cX9_countTrue 36 = .ok (.iconst 0, 1) := by decide +kernel
theorem dX9_countTrue_37 : decode cX9_countTrue 37 = .ok (.iadd, 1) := by decide +kernel
theorem dX9_countTrue_38 : decode cX9_countTrue 38 = .ok (.istore_n 1, 1) := by decide +kernel
theorem dX9_countTrue_39 : decode cX9_countTrue 39 = .ok (.iinc 2 1, 3) := by decide +kernel
theorem dX9_countTrue_42 : decode cX9_countTrue 42 = .ok (.goto (-38), 3) := by decide +kernel
theorem dX9_countTrue_45 : decode cX9_countTrue 45 = .ok (.iload_n 1, 1) := by decide +kernel
theorem dX9_countTrue_46 : decode cX9_countTrue 46 = .ok (.ireturn, 1) := by decide +kernel
theorem dX9_offOf_0 : decode cX9_offOf 0 = .ok (.lconst 0, 1) := by decide +kernel
theorem dX9_offOf_1 : decode cX9_offOf 1 = .ok (.lstore_n 2, 1) := by decide +kernel
theorem dX9_offOf_2 : decode cX9_offOf 2 = .ok (.iconst 0, 1) := by decide +kernel
theorem dX9_offOf_3 : decode cX9_offOf 3 = .ok (.istore 4, 2) := by decide +kernel
theorem dX9_offOf_5 : decode cX9_offOf 5 = .ok (.iload 4, 2) := by decide +kernel
theorem dX9_offOf_7 : decode cX9_offOf 7 = .ok (.aload_n 0, 1) := by decide +kernel
theorem dX9_offOf_8 : decode cX9_offOf 8 = .ok (.getfield 12, 3) := by decide +kernel
theorem dX9_offOf_11 : decode cX9_offOf 11 = .ok (.getfield 64, 3) := by decide +kernel
theorem dX9_offOf_14 : decode cX9_offOf 14 = .ok (.if_icmp .ge 99, 3) := by decide +kernel
theorem dX9_offOf_17 : decode cX9_offOf 17 = .ok (.aload_n 0, 1) := by decide +kernel
theorem dX9_offOf_18 : decode cX9_offOf 18 = .ok (.getfield 12, 3) := by decide +kernel
theorem dX9_offOf_21 : decode cX9_offOf 21 = .ok (.getfield 68, 3) := by decide +kernel
theorem dX9_offOf_24 : decode cX9_offOf 24 = .ok (.iload 4, 2) := by decide +kernel
theorem dX9_offOf_26 : decode cX9_offOf 26 = .ok (.aaload, 1) := by decide +kernel
theorem dX9_offOf_27 : decode cX9_offOf 27 = .ok (.astore 5, 2) := by decide +kernel
theorem dX9_offOf_29 : decode cX9_offOf 29 = .ok (.iconst 0, 1) := by decide +kernel
theorem dX9_offOf_30 : decode cX9_offOf 30 = .ok (.istore 6, 2) := by decide +kernel
theorem dX9_offOf_32 : decode cX9_offOf 32 = .ok (.iload 6, 2) := by decide +kernel
theorem dX9_offOf_34 : decode cX9_offOf 34 = .ok (.aload 5, 2) := by decide +kernel
theorem dX9_offOf_36 : decode cX9_offOf 36 = .ok (.getfield 200, 3) := by decide +kernel
theorem dX9_offOf_39 : decode cX9_offOf 39 = .ok (.if_icmp .ge 68, 3) := by decide +kernel
theorem dX9_offOf_42 : decode cX9_offOf 42 = .ok (.aload_n 0, 1) := by decide +kernel
theorem dX9_offOf_43 : decode cX9_offOf 43 = .ok (.getfield 30, 3) := by decide +kernel
theorem dX9_offOf_46 : decode cX9_offOf 46 = .ok (.aload_n 1, 1) := by decide +kernel
theorem dX9_offOf_47 : decode cX9_offOf 47 = .ok (.aload 5, 2) := by decide +kernel
theorem dX9_offOf_49 : decode cX9_offOf 49 = .ok (.getfield 398, 3) := by decide +kernel
theorem dX9_offOf_52 : decode cX9_offOf 52 = .ok (.iload 6, 2) := by decide +kernel
theorem dX9_offOf_54 : decode cX9_offOf 54 = .ok (.iaload, 1) := by decide +kernel
theorem dX9_offOf_55 : decode cX9_offOf 55 = .ok (.aload 5, 2) := by decide +kernel
theorem dX9_offOf_57 : decode cX9_offOf 57 = .ok (.aload 5, 2) := by decide +kernel
theorem dX9_offOf_59 : decode cX9_offOf 59 = .ok (.getfield 401, 3) := by decide +kernel
theorem dX9_offOf_62 : decode cX9_offOf 62 = .ok (.iload 6, 2) := by decide +kernel
theorem dX9_offOf_64 : decode cX9_offOf 64 = .ok (.aaload, 1) := by decide +kernel
theorem dX9_offOf_65 : decode cX9_offOf 65 = .ok (.aload 5, 2) := by decide +kernel
theorem dX9_offOf_67 : decode cX9_offOf 67 = .ok (.getfield 96, 3) := by decide +kernel
theorem dX9_offOf_70 : decode cX9_offOf 70 = .ok (.aload 5, 2) := by decide +kernel
theorem dX9_offOf_72 : decode cX9_offOf 72 = .ok (.getfield 405, 3) := by decide +kernel
theorem dX9_offOf_75 : decode cX9_offOf 75 = .ok (.iload 6, 2) := by decide +kernel
theorem dX9_offOf_77 : decode cX9_offOf 77 = .ok (.aaload, 1) := by decide +kernel
theorem dX9_offOf_78 : decode cX9_offOf 78 = .ok (.invokevirtual 216, 3) := by decide +kernel
theorem dX9_offOf_81 : decode cX9_offOf 81 = .ok (.istore 7, 2) := by decide +kernel
theorem dX9_offOf_83 : decode cX9_offOf 83 = .ok (.lload_n 2, 1) := by decide +kernel
theorem dX9_offOf_84 : decode cX9_offOf 84 = .ok (.iload 7, 2) := by decide +kernel
theorem dX9_offOf_86 : decode cX9_offOf 86 = .ok (.aload 5, 2) := by decide +kernel
theorem dX9_offOf_88 : decode cX9_offOf 88 = .ok (.getfield 408, 3) := by decide +kernel
theorem dX9_offOf_91 : decode cX9_offOf 91 = .ok (.iload 6, 2) := by decide +kernel
theorem dX9_offOf_93 : decode cX9_offOf 93 = .ok (.iaload, 1) := by decide +kernel
theorem dX9_offOf_94 : decode cX9_offOf 94 = .ok (.isub, 1) := by decide +kernel
theorem dX9_offOf_95 : decode cX9_offOf 95 = .ok (.invokestatic 362, 3) := by decide +kernel
theorem dX9_offOf_98 : decode cX9_offOf 98 = .ok (.i2l, 1) := by decide +kernel
theorem dX9_offOf_99 : decode cX9_offOf 99 = .ok (.ladd, 1) := by decide +kernel
theorem dX9_offOf_100 : decode cX9_offOf 100 = .ok (.lstore_n 2, 1) := by decide +kernel
theorem dX9_offOf_101 : decode cX9_offOf 101 = .ok (.iinc 6 1, 3) := by decide +kernel
theorem dX9_offOf_104 : decode cX9_offOf 104 = .ok (.goto (-72), 3) := by decide +kernel
theorem dX9_offOf_107 : decode cX9_offOf 107 = .ok (.iinc 4 1, 3) := by decide +kernel
theorem dX9_offOf_110 : decode cX9_offOf 110 = .ok (.goto (-105), 3) := by decide +kernel
theorem dX9_offOf_113 : decode cX9_offOf 113 = .ok (.lload_n 2, 1) := by decide +kernel
theorem dX9_offOf_114 : decode cX9_offOf 114 = .ok (.ldc2_w 411, 3) := by decide +kernel
theorem dX9_offOf_117 : decode cX9_offOf 117 = .ok (.invokestatic 413, 3) := by decide +kernel
theorem dX9_offOf_120 : decode cX9_offOf 120 = .ok (.l2i, 1) := by decide +kernel
theorem dX9_offOf_121 : decode cX9_offOf 121 = .ok (.ireturn, 1) := by decide +kernel
theorem dX9_fillLowTones_0 : decode cX9_fillLowTones 0 = .ok (.iconst 0, 1) := by decide +kernel
theorem dX9_fillLowTones_1 : decode cX9_fillLowTones 1 = .ok (.istore_n 1, 1) := by decide +kernel
theorem dX9_fillLowTones_2 : decode cX9_fillLowTones 2 = .ok (.iload_n 1, 1) := by decide +kernel
theorem dX9_fillLowTones_3 : decode cX9_fillLowTones 3 = .ok (.aload_n 0, 1) := by decide +kernel
theorem dX9_fillLowTones_4 : decode cX9_fillLowTones 4 = .ok (.getfield 12, 3) := by decide +kernel
theorem dX9_fillLowTones_7 : decode cX9_fillLowTones 7 = .ok (.getfield 64, 3) := by decide +kernel
theorem dX9_fillLowTones_10 : decode cX9_fillLowTones 10 = .ok (.if_icmp .ge 29, 3) := by decide +kernel
theorem dX9_fillLowTones_13 : decode cX9_fillLowTones 13 = .ok (.aload_n 0, 1) := by decide +kernel
theorem dX9_fillLowTones_14 : decode cX9_fillLowTones 14 = .ok (.getfield 55, 3) := by decide +kernel
theorem dX9_fillLowTones_17 : decode cX9_fillLowTones 17 = .ok (.iload_n 1, 1) := by decide +kernel
theorem dX9_fillLowTones_18 : decode cX9_fillLowTones 18 = .ok (.aload_n 0, 1) := by decide +kernel
theorem dX9_fillLowTones_19 : decode cX9_fillLowTones 19 = .ok (.aload_n 0, 1) := by decide +kernel
theorem dX9_fillLowTones_20 : decode cX9_fillLowTones 20 = .ok (.getfield 12, 3) := by decide +kernel
theorem dX9_fillLowTones_23 : decode cX9_fillLowTones 23 = .ok (.getfield 68, 3) := by decide +kernel
theorem dX9_fillLowTones_26 : decode cX9_fillLowTones 26 = .ok (.iload_n 1, 1) := by decide +kernel
theorem dX9_fillLowTones_27 : decode cX9_fillLowTones 27 = .ok (.aaload, 1) := by decide +kernel
theorem dX9_fillLowTones_28 : decode cX9_fillLowTones 28 = .ok (.iconst 0, 1) := by decide +kernel
theorem dX9_fillLowTones_29 : decode cX9_fillLowTones 29 = .ok (.invokevirtual 166, 3) := by decide +kernel
theorem dX9_fillLowTones_32 : decode cX9_fillLowTones 32 = .ok (.iastore, 1) := by decide +kernel
theorem dX9_fillLowTones_33 : decode cX9_fillLowTones 33 = .ok (.iinc 1 1, 3) := by decide +kernel
theorem dX9_fillLowTones_36 : decode cX9_fillLowTones 36 = .ok (.goto (-34), 3) := by decide +kernel
theorem dX9_fillLowTones_39 : decode cX9_fillLowTones 39 = .ok (.return_, 1) := by decide +kernel
theorem dX9_apart_0 : decode cX9_apart 0 = .ok (.iconst 0, 1) := by decide +kernel
theorem dX9_apart_1 : decode cX9_apart 1 = .ok (.istore_n 1, 1) := by decide +kernel
theorem dX9_apart_2 : decode cX9_apart 2 = .ok (.iconst 0, 1) := by decide +kernel
theorem dX9_apart_3 : decode cX9_apart 3 = .ok (.istore_n 2, 1) := by decide +kernel
theorem dX9_apart_4 : decode cX9_apart 4 = .ok (.iload_n 2, 1) := by decide +kernel
theorem dX9_apart_5 : decode cX9_apart 5 = .ok (.aload_n 0, 1) := by decide +kernel
theorem dX9_apart_6 : decode cX9_apart 6 = .ok (.getfield 12, 3) := by decide +kernel
theorem dX9_apart_9 : decode cX9_apart 9 = .ok (.getfield 293, 3) := by decide +kernel
theorem dX9_apart_12 : decode cX9_apart 12 = .ok (.if_icmp .ge 17, 3) := by decide +kernel
theorem dX9_apart_15 : decode cX9_apart 15 = .ok (.iload_n 1, 1) := by decide +kernel
theorem dX9_apart_16 : decode cX9_apart 16 = .ok (.aload_n 0, 1) := by decide +kernel
theorem dX9_apart_17 : decode cX9_apart 17 = .ok (.iload_n 2, 1) := by decide +kernel
theorem dX9_apart_18 : decode cX9_apart 18 = .ok (.invokevirtual 311, 3) := by decide +kernel
theorem dX9_apart_21 : decode cX9_apart 21 = .ok (.iadd, 1) := by decide +kernel
theorem dX9_apart_22 : decode cX9_apart 22 = .ok (.istore_n 1, 1) := by decide +kernel
theorem dX9_apart_23 : decode cX9_apart 23 = .ok (.iinc 2 1, 3) := by decide +kernel
theorem dX9_apart_26 : decode cX9_apart 26 = .ok (.goto (-22), 3) := by decide +kernel
theorem dX9_apart_29 : decode cX9_apart 29 = .ok (.iload_n 1, 1) := by decide +kernel
theorem dX9_apart_30 : decode cX9_apart 30 = .ok (.ireturn, 1) := by decide +kernel
theorem dX10_isIn_0 : decode cX10_isIn 0 = .ok (.iload_n 1, 1) := by decide +kernel
theorem dX10_isIn_1 : decode cX10_isIn 1 = .ok (.iload_n 2, 1) := by decide +kernel
theorem dX10_isIn_2 : decode cX10_isIn 2 = .ok (.if_icmp .lt 12, 3) := by decide +kernel
theorem dX10_isIn_5 : decode cX10_isIn 5 = .ok (.iload_n 1, 1) := by decide +kernel
theorem dX10_isIn_6 : decode cX10_isIn 6 = .ok (.iload_n 3, 1) := by decide +kernel
theorem dX10_isIn_7 : decode cX10_isIn 7 = .ok (.if_icmp .gt 7, 3) := by decide +kernel
theorem dX10_isIn_10 : decode cX10_isIn 10 = .ok (.iconst 1, 1) := by decide +kernel
theorem dX10_isIn_11 : decode cX10_isIn 11 = .ok (.goto 4, 3) := by decide +kernel
theorem dX10_isIn_14 : decode cX10_isIn 14 = .ok (.iconst 0, 1) := by decide +kernel
theorem dX10_isIn_15 : decode cX10_isIn 15 = .ok (.ireturn, 1) := by decide +kernel
theorem dX10_isTone_0 : decode cX10_isTone 0 = .ok (.aload_n 0, 1) := by decide +kernel
theorem dX10_isTone_1 : decode cX10_isTone 1 = .ok (.iload_n 1, 1) := by decide +kernel
theorem dX10_isTone_2 : decode cX10_isTone 2 = .ok (.iconst 0, 1) := by decide +kernel
theorem dX10_isTone_3 : decode cX10_isTone 3 = .ok (.iconst 2, 1) := by decide +kernel
theorem dX10_isTone_4 : decode cX10_isTone 4 = .ok (.invokevirtual 177, 3) := by decide +kernel
theorem dX10_isTone_7 : decode cX10_isTone 7 = .ok (.ireturn, 1) := by decide +kernel
theorem dX10_isLaw_0 : decode cX10_isLaw 0 = .ok (.iload_n 1, 1) := by decide +kernel
theorem dX10_isLaw_1 : decode cX10_isLaw 1 = .ok (.ifCond .eq 8, 3) := by decide +kernel
theorem dX10_isLaw_4 : decode cX10_isLaw 4 = .ok (.iload_n 1, 1) := by decide +kernel
theorem dX10_isLaw_5 : decode cX10_isLaw 5 = .ok (.iconst 1, 1) := by decide +kernel
theorem dX10_isLaw_6 : decode cX10_isLaw 6 = .ok (.if_icmp .ne 7, 3) := by decide +kernel
theorem dX10_isLaw_9 : decode cX10_isLaw 9 = .ok (.iconst 1, 1) := by decide +kernel
theorem dX10_isLaw_10 : decode cX10_isLaw 10 = .ok (.goto 4, 3) := by decide +kernel
theorem dX10_isLaw_13 : decode cX10_isLaw 13 = .ok (.iconst 0, 1) := by decide +kernel
theorem dX10_isLaw_14 : decode cX10_isLaw 14 = .ok (.ireturn, 1) := by decide +kernel
theorem dX10_isHeat_0 : decode cX10_isHeat 0 = .ok (.aload_n 0, 1) := by decide +kernel
theorem dX10_isHeat_1 : decode cX10_isHeat 1 = .ok (.iload_n 1, 1) := by decide +kernel
theorem dX10_isHeat_2 : decode cX10_isHeat 2 = .ok (.bipush (-20), 2) := by decide +kernel
theorem dX10_isHeat_4 : decode cX10_isHeat 4 = .ok (.bipush 50, 2) := by decide +kernel
theorem dX10_isHeat_6 : decode cX10_isHeat 6 = .ok (.invokevirtual 177, 3) := by decide +kernel
theorem dX10_isHeat_9 : decode cX10_isHeat 9 = .ok (.ireturn, 1) := by decide +kernel
theorem dX10_isWet_0 : decode cX10_isWet 0 = .ok (.aload_n 0, 1) := by decide +kernel
theorem dX10_isWet_1 : decode cX10_isWet 1 = .ok (.iload_n 1, 1) := by decide +kernel
theorem dX10_isWet_2 : decode cX10_isWet 2 = .ok (.iconst 0, 1) := by decide +kernel
theorem dX10_isWet_3 : decode cX10_isWet 3 = .ok (.bipush 99, 2) := by decide +kernel
theorem dX10_isWet_5 : decode cX10_isWet 5 = .ok (.invokevirtual 177, 3) := by decide +kernel
theorem dX10_isWet_8 : decode cX10_isWet 8 = .ok (.ireturn, 1) := by decide +kernel
theorem dJ7_fill_53178_0 : decode cJ7_fill_53178 0 = .ok (.iconst 0, 1) := by decide +kernel
theorem dJ7_fill_53178_1 : decode cJ7_fill_53178 1 = .ok (.istore_n 2, 1) := by decide +kernel
theorem dJ7_fill_53178_2 : decode cJ7_fill_53178 2 = .ok (.aload_n 0, 1) := by decide +kernel
theorem dJ7_fill_53178_3 : decode cJ7_fill_53178 3 = .ok (.arraylength, 1) := by decide +kernel
theorem dJ7_fill_53178_4 : decode cJ7_fill_53178 4 = .ok (.istore_n 3, 1) := by decide +kernel
theorem dJ7_fill_53178_5 : decode cJ7_fill_53178 5 = .ok (.iload_n 2, 1) := by decide +kernel
theorem dJ7_fill_53178_6 : decode cJ7_fill_53178 6 = .ok (.iload_n 3, 1) := by decide +kernel
theorem dJ7_fill_53178_7 : decode cJ7_fill_53178 7 = .ok (.if_icmp .ge 13, 3) := by decide +kernel
theorem dJ7_fill_53178_10 : decode cJ7_fill_53178 10 = .ok (.aload_n 0, 1) := by decide +kernel
theorem dJ7_fill_53178_11 : decode cJ7_fill_53178 11 = .ok (.iload_n 2, 1) := by decide +kernel
theorem dJ7_fill_53178_12 : decode cJ7_fill_53178 12 = .ok (.iload_n 1, 1) := by decide +kernel
theorem dJ7_fill_53178_13 : decode cJ7_fill_53178 13 = .ok (.iastore, 1) := by decide +kernel
theorem dJ7_fill_53178_14 : decode cJ7_fill_53178 14 = .ok (.iinc 2 1, 3) := by decide +kernel
theorem dJ7_fill_53178_17 : decode cJ7_fill_53178 17 = .ok (.goto (-12), 3) := by decide +kernel
theorem dJ7_fill_53178_20 : decode cJ7_fill_53178 20 = .ok (.return_, 1) := by decide +kernel
end
section
theorem i_01 {x : Int32} (h : x.toInt = 0 ∨ x.toInt = 1) : x = 0 ∨ x = 1 := by
  rcases h with h | h
  · exact Or.inl (Int32.toInt_inj.mp (by rw [h]; rfl))
  · exact Or.inr (Int32.toInt_inj.mp (by rw [h]; rfl))
theorem okI {G : Nat → Option Nat} {lo hi : Int} {x : Int32} (h1 : lo ≤ x.toInt) (h2 : x.toInt ≤ hi) : OkV G (0, lo, hi) (.int x) := ⟨x, rfl, h1, h2⟩
theorem i_nn {x y : Int32} (h : ¬ ¬ x = y) : x.toInt = y.toInt := by rw [Classical.not_not.mp h]

set_option maxHeartbeats 4000000 in
set_option maxRecDepth 100000 in
theorem c_X9_within (l : Launch) (K : KE) (G : Nat → Option Nat) (H : Heap) (x0 : Int32) (x1 : Int32) (x2 : Int32)  (hT : TY K G H)  : MX l K yX9_within cX9_within 3 (some .boolean) 0 0 0 0 [.int x0, .int x1, .int x2] H (AE G [] H.size) (fun v H1 => H1 = H ∧ ((v = some (.int 1) ∧ (x1.toInt ≤ x0.toInt ∧ x0.toInt ≤ x2.toInt)) ∨ (v = some (.int 0) ∧ ¬ (x1.toInt ≤ x0.toInt ∧ x0.toInt ≤ x2.toInt)))) := by
  refine MX.of (by decide +kernel) (Nat.le_of_ble_eq_true rfl) ?_
  intro p e s m below meth c ls Q C hH hl hQ
  subst hH
  have C : CX p K s m _ meth c RX9 cX9_within 3 (some .boolean) "within" := C
  obtain ⟨hx, hb, hml, hown, hts, hKT, hr, hlocks, hnm⟩ := id C
  have hl : lv_has ls 3 [(0, .int x0), (1, .int x1), (2, .int x2)] := hl
  have hS : va_S (AE G [] s.heap.size) s.heap s.heap [] := va_S.rf
  have n_0 : (0 : Int32).toInt = 0 := rfl
  have n_1 : (1 : Int32).toInt = 1 := rfl
  refine lv_iload_n hx hb dX9_within_0 rfl (lv_at hl 0 rfl) ?_
  refine lv_iload_n hx hb dX9_within_1 rfl (lv_at hl 1 rfl) ?_
  refine lv_icmp_lt (tgt := 14) hx hb dX9_within_2 (by decide) (fun c1 => ?_) (fun c1 => ?_)
  · have k2 := i_lt c1
    refine lv_iconst (v := 0) hx hb dX9_within_14 (by decide) ?_
    exact x_zret C hQ (Or.inl rfl) dX9_within_15 hS (by decide) (by decide) (⟨rfl, Or.inr ⟨rfl, by omega⟩⟩)
  · have k2 := i_nlt c1
    refine lv_iload_n hx hb dX9_within_5 rfl (lv_at hl 0 rfl) ?_
    refine lv_iload_n hx hb dX9_within_6 rfl (lv_at hl 2 rfl) ?_
    refine lv_icmp_gt (tgt := 14) hx hb dX9_within_7 (by decide) (fun c3 => ?_) (fun c3 => ?_)
    · have k4 := i_lt c3
      refine lv_iconst (v := 0) hx hb dX9_within_14 (by decide) ?_
      exact x_zret C hQ (Or.inl rfl) dX9_within_15 hS (by decide) (by decide) (⟨rfl, Or.inr ⟨rfl, by omega⟩⟩)
    · have k4 := i_nlt c3
      refine lv_iconst (v := 1) hx hb dX9_within_10 (by decide) ?_
      refine lv_goto (tgt := 15) hx hb dX9_within_11 (by decide) ?_
      exact x_zret C hQ (Or.inr rfl) dX9_within_15 hS (by decide) (by decide) (⟨rfl, Or.inl ⟨rfl, by omega⟩⟩)

set_option maxHeartbeats 4000000 in
set_option maxRecDepth 100000 in
theorem c_X9_isTone (l : Launch) (K : KE) (G : Nat → Option Nat) (H : Heap) (x0 : Int32)  (hT : TY K G H)  : MX l K yX9_isTone cX9_isTone 1 (some .boolean) 1 22 0 0 [.int x0] H (AE G [] H.size) (fun v H1 => H1 = H ∧ ((v = some (.int 1) ∧ (0 ≤ x0.toInt ∧ x0.toInt ≤ 2)) ∨ (v = some (.int 0) ∧ ¬ (0 ≤ x0.toInt ∧ x0.toInt ≤ 2)))) := by
  refine MX.of (by decide +kernel) (Nat.le_of_ble_eq_true rfl) ?_
  intro p e s m below meth c ls Q C hH hl hQ
  subst hH
  have C : CX p K s m _ meth c RX9 cX9_isTone 1 (some .boolean) "isTone" := C
  obtain ⟨hx, hb, hml, hown, hts, hKT, hr, hlocks, hnm⟩ := id C
  have hl : lv_has ls 1 [(0, .int x0)] := hl
  have hS : va_S (AE G [] s.heap.size) s.heap s.heap [] := va_S.rf
  have n_0 : (0 : Int32).toInt = 0 := rfl
  have n_1 : (1 : Int32).toInt = 1 := rfl
  have n_2 : (2 : Int32).toInt = 2 := rfl
  refine lv_iload_n hx hb dX9_isTone_0 rfl (lv_at hl 0 rfl) ?_
  refine lv_iconst (v := 0) hx hb dX9_isTone_1 (by decide) ?_
  refine lv_iconst (v := 2) hx hb dX9_isTone_2 (by decide) ?_
  refine x_S (As := [.int x0, .int 0, .int 2]) (rest := []) C (c_X9_within l K G s.heap (x0) (0) (2) hT) yo_X9_within wM_X9_89 ⟨⟨by decide, by decide⟩, by decide, by decide⟩ rfl hl.1 rfl (Nat.le_of_ble_eq_true rfl) dX9_isTone_3 hS (AE_sub (fun _ _ => rfl) (by decide) hS.1) (fun vH1 H1 locsH1 pH1 zH1 kH1 hSH1 => ?_)
  have hqH1 := pH1.1.symm
  subst hqH1
  rcases pH1.2 with ⟨hvH1, hcH1⟩ | ⟨hvH1, hcH1⟩
  · subst hvH1
    refine W.eq (g2 := F0 m 6 ls [.int 1]) rfl ?_
    exact x_zret C hQ (Or.inr rfl) dX9_isTone_6 hSH1 (by decide) (by decide) (⟨rfl, Or.inl ⟨rfl, by omega⟩⟩)
  · subst hvH1
    refine W.eq (g2 := F0 m 6 ls [.int 0]) rfl ?_
    exact x_zret C hQ (Or.inl rfl) dX9_isTone_6 hSH1 (by decide) (by decide) (⟨rfl, Or.inr ⟨rfl, by omega⟩⟩)

set_option maxHeartbeats 4000000 in
set_option maxRecDepth 100000 in
theorem c_X9_isAir (l : Launch) (K : KE) (G : Nat → Option Nat) (H : Heap) (x0 : Int32) (x1 : Int32)  (hT : TY K G H)  : MX l K yX9_isAir cX9_isAir 2 (some .boolean) 1 22 0 0 [.int x0, .int x1] H (AE G [] H.size) (fun v H1 => H1 = H ∧ ((v = some (.int 1) ∧ ((-20 ≤ x0.toInt ∧ x0.toInt ≤ 50) ∧ 0 ≤ x1.toInt ∧ x1.toInt ≤ 99)) ∨ (v = some (.int 0) ∧ ¬ ((-20 ≤ x0.toInt ∧ x0.toInt ≤ 50) ∧ 0 ≤ x1.toInt ∧ x1.toInt ≤ 99)))) := by
  refine MX.of (by decide +kernel) (Nat.le_of_ble_eq_true rfl) ?_
  intro p e s m below meth c ls Q C hH hl hQ
  subst hH
  have C : CX p K s m _ meth c RX9 cX9_isAir 2 (some .boolean) "isAir" := C
  obtain ⟨hx, hb, hml, hown, hts, hKT, hr, hlocks, hnm⟩ := id C
  have hl : lv_has ls 2 [(0, .int x0), (1, .int x1)] := hl
  have hS : va_S (AE G [] s.heap.size) s.heap s.heap [] := va_S.rf
  have n_m20 : ((-20) : Int32).toInt = -20 := rfl
  have n_0 : (0 : Int32).toInt = 0 := rfl
  have n_1 : (1 : Int32).toInt = 1 := rfl
  have n_50 : (50 : Int32).toInt = 50 := rfl
  have n_99 : (99 : Int32).toInt = 99 := rfl
  refine lv_iload_n hx hb dX9_isAir_0 rfl (lv_at hl 0 rfl) ?_
  refine lv_bipush (v := (-20)) hx hb dX9_isAir_1 (by decide) ?_
  refine lv_bipush (v := 50) hx hb dX9_isAir_3 (by decide) ?_
  refine x_S (As := [.int x0, .int (-20), .int 50]) (rest := []) C (c_X9_within l K G s.heap (x0) ((-20)) (50) hT) yo_X9_within wM_X9_89 ⟨⟨by decide, by decide⟩, by decide, by decide⟩ rfl hl.1 rfl (Nat.le_of_ble_eq_true rfl) dX9_isAir_5 hS (AE_sub (fun _ _ => rfl) (by decide) hS.1) (fun vH1 H1 locsH1 pH1 zH1 kH1 hSH1 => ?_)
  have hqH1 := pH1.1.symm
  subst hqH1
  rcases pH1.2 with ⟨hvH1, hcH1⟩ | ⟨hvH1, hcH1⟩
  · subst hvH1
    refine W.eq (g2 := F0 m 8 ls [.int 1]) rfl ?_
    refine lv_if_eq (tgt := 25) hx hb dX9_isAir_8 (by decide) (fun c2 => ?_) (fun c2 => ?_)
    · have k3 := i_eq c2
      exfalso
      omega
    · have k3 := i_ne c2
      refine lv_iload_n hx hb dX9_isAir_11 rfl (lv_at hl 1 rfl) ?_
      refine lv_iconst (v := 0) hx hb dX9_isAir_12 (by decide) ?_
      refine lv_bipush (v := 99) hx hb dX9_isAir_13 (by decide) ?_
      refine x_S (As := [.int x1, .int 0, .int 99]) (rest := []) C (c_X9_within l K G s.heap (x1) (0) (99) hT) yo_X9_within wM_X9_89 ⟨⟨by decide, by decide⟩, by decide, by decide⟩ rfl hl.1 rfl (Nat.le_of_ble_eq_true rfl) dX9_isAir_15 hSH1 (AE_sub (fun _ _ => rfl) (by decide) hSH1.1) (fun vH4 H4 locsH4 pH4 zH4 kH4 hSH4 => ?_)
      have hqH4 := pH4.1.symm
      subst hqH4
      rcases pH4.2 with ⟨hvH4, hcH4⟩ | ⟨hvH4, hcH4⟩
      · subst hvH4
        refine W.eq (g2 := F0 m 18 ls [.int 1]) rfl ?_
        refine lv_if_eq (tgt := 25) hx hb dX9_isAir_18 (by decide) (fun c5 => ?_) (fun c5 => ?_)
        · have k6 := i_eq c5
          exfalso
          omega
        · have k6 := i_ne c5
          refine lv_iconst (v := 1) hx hb dX9_isAir_21 (by decide) ?_
          refine lv_goto (tgt := 26) hx hb dX9_isAir_22 (by decide) ?_
          exact x_zret C hQ (Or.inr rfl) dX9_isAir_26 hSH4 (by decide) (by decide) (⟨rfl, Or.inl ⟨rfl, by omega⟩⟩)
      · subst hvH4
        refine W.eq (g2 := F0 m 18 ls [.int 0]) rfl ?_
        refine lv_if_eq (tgt := 25) hx hb dX9_isAir_18 (by decide) (fun c7 => ?_) (fun c7 => ?_)
        · have k8 := i_eq c7
          refine lv_iconst (v := 0) hx hb dX9_isAir_25 (by decide) ?_
          exact x_zret C hQ (Or.inl rfl) dX9_isAir_26 hSH4 (by decide) (by decide) (⟨rfl, Or.inr ⟨rfl, by omega⟩⟩)
        · have k8 := i_ne c7
          exfalso
          omega
  · subst hvH1
    refine W.eq (g2 := F0 m 8 ls [.int 0]) rfl ?_
    refine lv_if_eq (tgt := 25) hx hb dX9_isAir_8 (by decide) (fun c9 => ?_) (fun c9 => ?_)
    · have k10 := i_eq c9
      refine lv_iconst (v := 0) hx hb dX9_isAir_25 (by decide) ?_
      exact x_zret C hQ (Or.inl rfl) dX9_isAir_26 hSH1 (by decide) (by decide) (⟨rfl, Or.inr ⟨rfl, by omega⟩⟩)
    · have k10 := i_ne c9
      exfalso
      omega

set_option maxHeartbeats 4000000 in
set_option maxRecDepth 100000 in
theorem c_X10_isIn (l : Launch) (K : KE) (G : Nat → Option Nat) (H : Heap) {a : Nat} (x0 : Int32) (x1 : Int32) (x2 : Int32)  (hT : TY K G H) (ga : G a = some 112)  : MX l K yX10_isIn cX10_isIn 4 (some .boolean) 0 0 0 0 [.ref a, .int x0, .int x1, .int x2] H (AE G [] H.size) (fun v H1 => H1 = H ∧ ((v = some (.int 1) ∧ (x1.toInt ≤ x0.toInt ∧ x0.toInt ≤ x2.toInt)) ∨ (v = some (.int 0) ∧ ¬ (x1.toInt ≤ x0.toInt ∧ x0.toInt ≤ x2.toInt)))) := by
  refine MX.of (by decide +kernel) (Nat.le_of_ble_eq_true rfl) ?_
  intro p e s m below meth c ls Q C hH hl hQ
  subst hH
  have C : CX p K s m _ meth c RX10 cX10_isIn 4 (some .boolean) "isIn" := C
  obtain ⟨hx, hb, hml, hown, hts, hKT, hr, hlocks, hnm⟩ := id C
  have hl : lv_has ls 4 [(0, .ref a), (1, .int x0), (2, .int x1), (3, .int x2)] := hl
  have hS : va_S (AE G [] s.heap.size) s.heap s.heap [] := va_S.rf
  have n_0 : (0 : Int32).toInt = 0 := rfl
  have n_1 : (1 : Int32).toInt = 1 := rfl
  refine lv_iload_n hx hb dX10_isIn_0 rfl (lv_at hl 1 rfl) ?_
  refine lv_iload_n hx hb dX10_isIn_1 rfl (lv_at hl 2 rfl) ?_
  refine lv_icmp_lt (tgt := 14) hx hb dX10_isIn_2 (by decide) (fun c1 => ?_) (fun c1 => ?_)
  · have k2 := i_lt c1
    refine lv_iconst (v := 0) hx hb dX10_isIn_14 (by decide) ?_
    exact x_zret C hQ (Or.inl rfl) dX10_isIn_15 hS (by decide) (by decide) (⟨rfl, Or.inr ⟨rfl, by omega⟩⟩)
  · have k2 := i_nlt c1
    refine lv_iload_n hx hb dX10_isIn_5 rfl (lv_at hl 1 rfl) ?_
    refine lv_iload_n hx hb dX10_isIn_6 rfl (lv_at hl 3 rfl) ?_
    refine lv_icmp_gt (tgt := 14) hx hb dX10_isIn_7 (by decide) (fun c3 => ?_) (fun c3 => ?_)
    · have k4 := i_lt c3
      refine lv_iconst (v := 0) hx hb dX10_isIn_14 (by decide) ?_
      exact x_zret C hQ (Or.inl rfl) dX10_isIn_15 hS (by decide) (by decide) (⟨rfl, Or.inr ⟨rfl, by omega⟩⟩)
    · have k4 := i_nlt c3
      refine lv_iconst (v := 1) hx hb dX10_isIn_10 (by decide) ?_
      refine lv_goto (tgt := 15) hx hb dX10_isIn_11 (by decide) ?_
      exact x_zret C hQ (Or.inr rfl) dX10_isIn_15 hS (by decide) (by decide) (⟨rfl, Or.inl ⟨rfl, by omega⟩⟩)

set_option maxHeartbeats 4000000 in
set_option maxRecDepth 100000 in
theorem c_X10_isTone (l : Launch) (K : KE) (G : Nat → Option Nat) (H : Heap) {a : Nat} (x0 : Int32)  (hT : TY K G H) (ga : G a = some 112)  : MX l K yX10_isTone cX10_isTone 2 (some .boolean) 1 23 0 0 [.ref a, .int x0] H (AE G [] H.size) (fun v H1 => H1 = H ∧ ((v = some (.int 1) ∧ (0 ≤ x0.toInt ∧ x0.toInt ≤ 2)) ∨ (v = some (.int 0) ∧ ¬ (0 ≤ x0.toInt ∧ x0.toInt ≤ 2)))) := by
  refine MX.of (by decide +kernel) (Nat.le_of_ble_eq_true rfl) ?_
  intro p e s m below meth c ls Q C hH hl hQ
  subst hH
  have C : CX p K s m _ meth c RX10 cX10_isTone 2 (some .boolean) "isTone" := C
  obtain ⟨hx, hb, hml, hown, hts, hKT, hr, hlocks, hnm⟩ := id C
  have hl : lv_has ls 2 [(0, .ref a), (1, .int x0)] := hl
  have hS : va_S (AE G [] s.heap.size) s.heap s.heap [] := va_S.rf
  have n_0 : (0 : Int32).toInt = 0 := rfl
  have n_1 : (1 : Int32).toInt = 1 := rfl
  have n_2 : (2 : Int32).toInt = 2 := rfl
  refine lv_aload_n hx hb dX10_isTone_0 rfl (lv_at hl 0 rfl) ?_
  refine lv_iload_n hx hb dX10_isTone_1 rfl (lv_at hl 1 rfl) ?_
  refine lv_iconst (v := 0) hx hb dX10_isTone_2 (by decide) ?_
  refine lv_iconst (v := 2) hx hb dX10_isTone_3 (by decide) ?_
  refine x_V (As := [.int x0, .int 0, .int 2]) (rest := []) C (c_X10_isIn l K G s.heap (x0) (0) (2) hT ga) yo_X10_isIn wM_X10_177 ⟨⟨by decide, by decide⟩, by decide, by decide⟩ (x_rv C hT (ci := 10) rfl ga rg_112) rfl hl.1 rfl (Nat.le_of_ble_eq_true rfl) dX10_isTone_4 hS (AE_sub (fun _ _ => rfl) (by decide) hS.1) (fun vH1 H1 locsH1 pH1 zH1 kH1 hSH1 => ?_)
  have hqH1 := pH1.1.symm
  subst hqH1
  rcases pH1.2 with ⟨hvH1, hcH1⟩ | ⟨hvH1, hcH1⟩
  · subst hvH1
    refine W.eq (g2 := F0 m 7 ls [.int 1]) rfl ?_
    exact x_zret C hQ (Or.inr rfl) dX10_isTone_7 hSH1 (by decide) (by decide) (⟨rfl, Or.inl ⟨rfl, by omega⟩⟩)
  · subst hvH1
    refine W.eq (g2 := F0 m 7 ls [.int 0]) rfl ?_
    exact x_zret C hQ (Or.inl rfl) dX10_isTone_7 hSH1 (by decide) (by decide) (⟨rfl, Or.inr ⟨rfl, by omega⟩⟩)

set_option maxHeartbeats 4000000 in
set_option maxRecDepth 100000 in
theorem c_X10_isHeat (l : Launch) (K : KE) (G : Nat → Option Nat) (H : Heap) {a : Nat} (x0 : Int32)  (hT : TY K G H) (ga : G a = some 112)  : MX l K yX10_isHeat cX10_isHeat 2 (some .boolean) 1 23 0 0 [.ref a, .int x0] H (AE G [] H.size) (fun v H1 => H1 = H ∧ ((v = some (.int 1) ∧ (-20 ≤ x0.toInt ∧ x0.toInt ≤ 50)) ∨ (v = some (.int 0) ∧ ¬ (-20 ≤ x0.toInt ∧ x0.toInt ≤ 50)))) := by
  refine MX.of (by decide +kernel) (Nat.le_of_ble_eq_true rfl) ?_
  intro p e s m below meth c ls Q C hH hl hQ
  subst hH
  have C : CX p K s m _ meth c RX10 cX10_isHeat 2 (some .boolean) "isHeat" := C
  obtain ⟨hx, hb, hml, hown, hts, hKT, hr, hlocks, hnm⟩ := id C
  have hl : lv_has ls 2 [(0, .ref a), (1, .int x0)] := hl
  have hS : va_S (AE G [] s.heap.size) s.heap s.heap [] := va_S.rf
  have n_m20 : ((-20) : Int32).toInt = -20 := rfl
  have n_0 : (0 : Int32).toInt = 0 := rfl
  have n_1 : (1 : Int32).toInt = 1 := rfl
  have n_50 : (50 : Int32).toInt = 50 := rfl
  refine lv_aload_n hx hb dX10_isHeat_0 rfl (lv_at hl 0 rfl) ?_
  refine lv_iload_n hx hb dX10_isHeat_1 rfl (lv_at hl 1 rfl) ?_
  refine lv_bipush (v := (-20)) hx hb dX10_isHeat_2 (by decide) ?_
  refine lv_bipush (v := 50) hx hb dX10_isHeat_4 (by decide) ?_
  refine x_V (As := [.int x0, .int (-20), .int 50]) (rest := []) C (c_X10_isIn l K G s.heap (x0) ((-20)) (50) hT ga) yo_X10_isIn wM_X10_177 ⟨⟨by decide, by decide⟩, by decide, by decide⟩ (x_rv C hT (ci := 10) rfl ga rg_112) rfl hl.1 rfl (Nat.le_of_ble_eq_true rfl) dX10_isHeat_6 hS (AE_sub (fun _ _ => rfl) (by decide) hS.1) (fun vH1 H1 locsH1 pH1 zH1 kH1 hSH1 => ?_)
  have hqH1 := pH1.1.symm
  subst hqH1
  rcases pH1.2 with ⟨hvH1, hcH1⟩ | ⟨hvH1, hcH1⟩
  · subst hvH1
    refine W.eq (g2 := F0 m 9 ls [.int 1]) rfl ?_
    exact x_zret C hQ (Or.inr rfl) dX10_isHeat_9 hSH1 (by decide) (by decide) (⟨rfl, Or.inl ⟨rfl, by omega⟩⟩)
  · subst hvH1
    refine W.eq (g2 := F0 m 9 ls [.int 0]) rfl ?_
    exact x_zret C hQ (Or.inl rfl) dX10_isHeat_9 hSH1 (by decide) (by decide) (⟨rfl, Or.inr ⟨rfl, by omega⟩⟩)

set_option maxHeartbeats 4000000 in
set_option maxRecDepth 100000 in
theorem c_X10_isWet (l : Launch) (K : KE) (G : Nat → Option Nat) (H : Heap) {a : Nat} (x0 : Int32)  (hT : TY K G H) (ga : G a = some 112)  : MX l K yX10_isWet cX10_isWet 2 (some .boolean) 1 23 0 0 [.ref a, .int x0] H (AE G [] H.size) (fun v H1 => H1 = H ∧ ((v = some (.int 1) ∧ (0 ≤ x0.toInt ∧ x0.toInt ≤ 99)) ∨ (v = some (.int 0) ∧ ¬ (0 ≤ x0.toInt ∧ x0.toInt ≤ 99)))) := by
  refine MX.of (by decide +kernel) (Nat.le_of_ble_eq_true rfl) ?_
  intro p e s m below meth c ls Q C hH hl hQ
  subst hH
  have C : CX p K s m _ meth c RX10 cX10_isWet 2 (some .boolean) "isWet" := C
  obtain ⟨hx, hb, hml, hown, hts, hKT, hr, hlocks, hnm⟩ := id C
  have hl : lv_has ls 2 [(0, .ref a), (1, .int x0)] := hl
  have hS : va_S (AE G [] s.heap.size) s.heap s.heap [] := va_S.rf
  have n_0 : (0 : Int32).toInt = 0 := rfl
  have n_1 : (1 : Int32).toInt = 1 := rfl
  have n_99 : (99 : Int32).toInt = 99 := rfl
  refine lv_aload_n hx hb dX10_isWet_0 rfl (lv_at hl 0 rfl) ?_
  refine lv_iload_n hx hb dX10_isWet_1 rfl (lv_at hl 1 rfl) ?_
  refine lv_iconst (v := 0) hx hb dX10_isWet_2 (by decide) ?_
  refine lv_bipush (v := 99) hx hb dX10_isWet_3 (by decide) ?_
  refine x_V (As := [.int x0, .int 0, .int 99]) (rest := []) C (c_X10_isIn l K G s.heap (x0) (0) (99) hT ga) yo_X10_isIn wM_X10_177 ⟨⟨by decide, by decide⟩, by decide, by decide⟩ (x_rv C hT (ci := 10) rfl ga rg_112) rfl hl.1 rfl (Nat.le_of_ble_eq_true rfl) dX10_isWet_5 hS (AE_sub (fun _ _ => rfl) (by decide) hS.1) (fun vH1 H1 locsH1 pH1 zH1 kH1 hSH1 => ?_)
  have hqH1 := pH1.1.symm
  subst hqH1
  rcases pH1.2 with ⟨hvH1, hcH1⟩ | ⟨hvH1, hcH1⟩
  · subst hvH1
    refine W.eq (g2 := F0 m 8 ls [.int 1]) rfl ?_
    exact x_zret C hQ (Or.inr rfl) dX10_isWet_8 hSH1 (by decide) (by decide) (⟨rfl, Or.inl ⟨rfl, by omega⟩⟩)
  · subst hvH1
    refine W.eq (g2 := F0 m 8 ls [.int 0]) rfl ?_
    exact x_zret C hQ (Or.inl rfl) dX10_isWet_8 hSH1 (by decide) (by decide) (⟨rfl, Or.inr ⟨rfl, by omega⟩⟩)

set_option maxHeartbeats 4000000 in
set_option maxRecDepth 100000 in
theorem c_X10_isLaw (l : Launch) (K : KE) (G : Nat → Option Nat) (H : Heap) {a : Nat} (x0 : Int32)  (hT : TY K G H) (ga : G a = some 112)  : MX l K yX10_isLaw cX10_isLaw 2 (some .boolean) 0 0 0 0 [.ref a, .int x0] H (AE G [] H.size) (fun v H1 => H1 = H ∧ ((v = some (.int 1) ∧ (0 ≤ x0.toInt ∧ x0.toInt ≤ 1)) ∨ (v = some (.int 0) ∧ ¬ (0 ≤ x0.toInt ∧ x0.toInt ≤ 1)))) := by
  refine MX.of (by decide +kernel) (Nat.le_of_ble_eq_true rfl) ?_
  intro p e s m below meth c ls Q C hH hl hQ
  subst hH
  have C : CX p K s m _ meth c RX10 cX10_isLaw 2 (some .boolean) "isLaw" := C
  obtain ⟨hx, hb, hml, hown, hts, hKT, hr, hlocks, hnm⟩ := id C
  have hl : lv_has ls 2 [(0, .ref a), (1, .int x0)] := hl
  have hS : va_S (AE G [] s.heap.size) s.heap s.heap [] := va_S.rf
  have n_0 : (0 : Int32).toInt = 0 := rfl
  have n_1 : (1 : Int32).toInt = 1 := rfl
  refine lv_iload_n hx hb dX10_isLaw_0 rfl (lv_at hl 1 rfl) ?_
  refine lv_if_eq (tgt := 9) hx hb dX10_isLaw_1 (by decide) (fun c1 => ?_) (fun c1 => ?_)
  · have k2 := i_eq c1
    refine lv_iconst (v := 1) hx hb dX10_isLaw_9 (by decide) ?_
    refine lv_goto (tgt := 14) hx hb dX10_isLaw_10 (by decide) ?_
    exact x_zret C hQ (Or.inr rfl) dX10_isLaw_14 hS (by decide) (by decide) (⟨rfl, Or.inl ⟨rfl, by omega⟩⟩)
  · have k2 := i_ne c1
    refine lv_iload_n hx hb dX10_isLaw_4 rfl (lv_at hl 1 rfl) ?_
    refine lv_iconst (v := 1) hx hb dX10_isLaw_5 (by decide) ?_
    refine lv_icmp_ne (tgt := 13) hx hb dX10_isLaw_6 (by decide) (fun c3 => ?_) (fun c3 => ?_)
    · have k4 := i_ne c3
      refine lv_iconst (v := 0) hx hb dX10_isLaw_13 (by decide) ?_
      exact x_zret C hQ (Or.inl rfl) dX10_isLaw_14 hS (by decide) (by decide) (⟨rfl, Or.inr ⟨rfl, by omega⟩⟩)
    · have k4 := i_eq c3
      refine lv_iconst (v := 1) hx hb dX10_isLaw_9 (by decide) ?_
      refine lv_goto (tgt := 14) hx hb dX10_isLaw_10 (by decide) ?_
      exact x_zret C hQ (Or.inr rfl) dX10_isLaw_14 hS (by decide) (by decide) (⟨rfl, Or.inl ⟨rfl, by omega⟩⟩)
end
section
/-- a fresh object of the class, its world w -/
def FX (K : KE) (H : Heap) (a w : Nat) : Prop := w = fR H a (K.1.2 9 0) ∧ fV H a (K.1.2 9 1) = .null ∧ fI H a (K.1.2 9 3) = 0 ∧ fI H w (K.1.2 8 1) = 0 ∧ fI H w (K.1.2 8 4) = 0 ∧ fI H w (K.1.2 8 5) = 10 ∧ fI H w (K.1.2 8 6) = 0 ∧ fI H w (K.1.2 8 7) = (-1) ∧ fI H w (K.1.2 8 10) = 0 ∧ fI H w (K.1.2 8 13) = 0 ∧ fI H w (K.1.2 8 16) = 0
/-- a fresh reference -/
def FM (K : KE) (H : Heap) (b : Nat) : Prop := fI H b (K.1.2 10 1) = 0 ∧ fI H b (K.1.2 10 2) = 0 ∧ fI H b (K.1.2 10 3) = 10 ∧ fI H b (K.1.2 10 18) = 0 ∧ fI H b (K.1.2 10 41) = 0 ∧ fI H b (K.1.2 10 42) = (-1) ∧ fI H b (K.1.2 10 59) = 0 ∧ fI H b (K.1.2 10 62) = 0 ∧ fI H b (K.1.2 10 65) = 0 ∧ fI H b (K.1.2 10 70) = 0
set_option maxHeartbeats 4000000 in
set_option maxRecDepth 100000 in
theorem f_X9_barAt (l : Launch) (K : KE) (G : Nat → Option Nat) (H : Heap) {a w : Nat} (x0 : Int32) (hT : TY K G H) (ga : G a = some 68) (gw : G w = some 0) (fx : FX K H a w) : MX l K yX9_barAt cX9_barAt 2 (some (.object "RingBars$Bar")) 1 22 0 0 [.ref a, .int x0] H (AE G [] H.size) (fun v H1 => H1 = H ∧ v = some .null) := by
  refine MX.of (by decide +kernel) (Nat.le_of_ble_eq_true rfl) ?_
  intro p e s m below meth c ls Q C hH hl hQ
  subst hH
  have C : CX p K s m _ meth c RX9 cX9_barAt 2 (some (.object "RingBars$Bar")) "barAt" := C
  obtain ⟨hx, hb, hml, hown, hts, hKT, hr, hlocks, hnm⟩ := id C
  have hl : lv_has ls 2 [(0, .ref a), (1, .int x0)] := hl
  have hS : va_S (AE G [] s.heap.size) s.heap s.heap [] := va_S.rf
  have n_m1 : ((-1) : Int32).toInt = -1 := rfl
  have n_0 : (0 : Int32).toInt = 0 := rfl
  have n_1 : (1 : Int32).toInt = 1 := rfl
  obtain ⟨f0, f1, f2, f3, f4, f5, f6, f7, f8, f9, f10⟩ := fx
  refine lv_iload_n hx hb dX9_barAt_0 rfl (lv_at hl 1 rfl) ?_
  refine lv_iconst (v := 0) hx hb dX9_barAt_1 (by decide) ?_
  refine lv_aload_n hx hb dX9_barAt_2 rfl (lv_at hl 0 rfl) ?_
  refine x_gr C hT (ci := 9) (k := 0) rfl inX9 (by decide) wF_X9_12 ga rg_68 rfl dX9_barAt_3 (fun q1 eq1 gq1 => ?_)
  have uq1 : w = q1 := (f0).trans eq1.symm
  subst uq1
  refine x_gi C hT (ci := 8) (k := 1) rfl inX8 (by decide) wF_X9_64 gw rg_0 rfl dX9_barAt_6 (fun x2 ex2 bx2 => ?_)
  have ux2 : x2 = 0 := ex2.trans f3
  subst ux2
  refine lv_iconst (v := 1) hx hb dX9_barAt_9 (by decide) ?_
  refine lv_isub hx hb dX9_barAt_10 ?_
  refine lv_topi (fun x3 ex3 => ?_)
  have tx3 : x3 = (-1) := by rw [ex3]; rfl
  rw [tx3] at ex3 ⊢
  clear tx3 ex3
  refine x_S (As := [.int x0, .int 0, .int (-1)]) (rest := []) C (c_X9_within l K G s.heap (x0) (0) ((-1)) hT) yo_X9_within wM_X9_89 ⟨⟨by decide, by decide⟩, by decide, by decide⟩ rfl hl.1 rfl (Nat.le_of_ble_eq_true rfl) dX9_barAt_11 hS (AE_sub (fun _ _ => rfl) (by decide) hS.1) (fun vH4 H4 locsH4 pH4 zH4 kH4 hSH4 => ?_)
  have hqH4 := pH4.1.symm
  subst hqH4
  rcases pH4.2 with ⟨hvH4, hcH4⟩ | ⟨hvH4, hcH4⟩
  · subst hvH4
    refine W.eq (g2 := F0 m 14 ls [.int 1]) rfl ?_
    exfalso
    omega
  · subst hvH4
    refine W.eq (g2 := F0 m 14 ls [.int 0]) rfl ?_
    refine lv_if_eq (tgt := 29) hx hb dX9_barAt_14 (by decide) (fun c5 => ?_) (fun c5 => ?_)
    · have k6 := i_eq c5
      refine lv_null hx hb dX9_barAt_29 ?_
      exact x_aret C hQ (Or.inl rfl) dX9_barAt_30 hSH4 (by decide) (by decide) (⟨rfl, rfl⟩)
    · have k6 := i_ne c5
      exfalso
      omega

set_option maxHeartbeats 4000000 in
set_option maxRecDepth 100000 in
theorem f_X9_slice (l : Launch) (K : KE) (G : Nat → Option Nat) (H : Heap) {a w : Nat} (x0 : Int32) (x1 : Int32) (x2 : Int32) (x3 : Int32) (x4 : Int32) (hT : TY K G H) (ga : G a = some 68) (gw : G w = some 0) (fx : FX K H a w) : MX l K yX9_slice cX9_slice 7 (some .boolean) 2 43 0 0 [.ref a, .int x0, .int x1, .int x2, .int x3, .int x4] H (AE G [] H.size) (fun v H1 => (∃ r : Int32, v = some (.int r) ∧ (r.toInt = 0)) ∧ ∃ G1 : Nat → Option Nat, (∀ q t, G q = some t → G1 q = some t) ∧ TY K G1 H1) := by
  refine MX.of (by decide +kernel) (Nat.le_of_ble_eq_true rfl) ?_
  intro p e s m below meth c ls Q C hH hl hQ
  subst hH
  have C : CX p K s m _ meth c RX9 cX9_slice 7 (some .boolean) "slice" := C
  obtain ⟨hx, hb, hml, hown, hts, hKT, hr, hlocks, hnm⟩ := id C
  have hl : lv_has ls 7 [(0, .ref a), (1, .int x0), (2, .int x1), (3, .int x2), (4, .int x3), (5, .int x4)] := hl
  have hS : va_S (AE G [] s.heap.size) s.heap s.heap [] := va_S.rf
  have n_0 : (0 : Int32).toInt = 0 := rfl
  obtain ⟨f0, f1, f2, f3, f4, f5, f6, f7, f8, f9, f10⟩ := fx
  refine lv_aload_n hx hb dX9_slice_0 rfl (lv_at hl 0 rfl) ?_
  refine lv_iload_n hx hb dX9_slice_1 rfl (lv_at hl 1 rfl) ?_
  refine x_V (As := [.int x0]) (rest := []) C (f_X9_barAt l K G s.heap (w := w) (x0) hT ga gw ⟨f0, f1, f2, f3, f4, f5, f6, f7, f8, f9, f10⟩) yo_X9_barAt wM_X9_78 ⟨⟨by decide, by decide⟩, by decide, by decide⟩ (x_rv C hT (ci := 9) rfl ga rg_68) rfl hl.1 rfl (Nat.le_of_ble_eq_true rfl) dX9_slice_2 hS (AE_sub (fun _ _ => rfl) (by decide) hS.1) (fun vH1 H1 locsH1 pH1 zH1 kH1 hSH1 => ?_)
  have hqH1 := pH1.1.symm
  subst hqH1
  have hvH1 := pH1.2
  subst hvH1
  refine W.eq (g2 := F0 m 5 ls [.null]) rfl ?_
  refine lv_astoreN (lv' := [(6, .null), (0, .ref a), (1, .int x0), (2, .int x1), (3, .int x2), (4, .int x3), (5, .int x4)]) hx hb dX9_slice_5 hl (by decide) rfl (fun ls2 hl3 => ?_)
  refine lv_aloadN hx hb dX9_slice_7 (lv_at hl3 0 rfl) ?_
  refine lv_ifnullN (tgt := 61) hx hb dX9_slice_9 (by decide) ?_
  refine lv_iconst (v := 0) hx hb dX9_slice_61 (by decide) ?_
  exact x_zret C hQ (Or.inl rfl) dX9_slice_62 hSH1 (by decide) (by decide) (⟨⟨0, rfl, by omega⟩, G, fun _ _ h => h, hT⟩)

set_option maxHeartbeats 4000000 in
set_option maxRecDepth 100000 in
theorem f_X9_wax (l : Launch) (K : KE) (G : Nat → Option Nat) (H : Heap) {a w : Nat} (x0 : Int32) (x1 : Int32) (x2 : Int32) (hT : TY K G H) (ga : G a = some 68) (gw : G w = some 0) (fx : FX K H a w) : MX l K yX9_wax cX9_wax 5 (some .boolean) 2 43 0 0 [.ref a, .int x0, .int x1, .int x2] H (AE G [] H.size) (fun v H1 => (∃ r : Int32, v = some (.int r) ∧ (r.toInt = 0)) ∧ ∃ G1 : Nat → Option Nat, (∀ q t, G q = some t → G1 q = some t) ∧ TY K G1 H1) := by
  refine MX.of (by decide +kernel) (Nat.le_of_ble_eq_true rfl) ?_
  intro p e s m below meth c ls Q C hH hl hQ
  subst hH
  have C : CX p K s m _ meth c RX9 cX9_wax 5 (some .boolean) "wax" := C
  obtain ⟨hx, hb, hml, hown, hts, hKT, hr, hlocks, hnm⟩ := id C
  have hl : lv_has ls 5 [(0, .ref a), (1, .int x0), (2, .int x1), (3, .int x2)] := hl
  have hS : va_S (AE G [] s.heap.size) s.heap s.heap [] := va_S.rf
  have n_0 : (0 : Int32).toInt = 0 := rfl
  obtain ⟨f0, f1, f2, f3, f4, f5, f6, f7, f8, f9, f10⟩ := fx
  refine lv_aload_n hx hb dX9_wax_0 rfl (lv_at hl 0 rfl) ?_
  refine lv_iload_n hx hb dX9_wax_1 rfl (lv_at hl 1 rfl) ?_
  refine x_V (As := [.int x0]) (rest := []) C (f_X9_barAt l K G s.heap (w := w) (x0) hT ga gw ⟨f0, f1, f2, f3, f4, f5, f6, f7, f8, f9, f10⟩) yo_X9_barAt wM_X9_78 ⟨⟨by decide, by decide⟩, by decide, by decide⟩ (x_rv C hT (ci := 9) rfl ga rg_68) rfl hl.1 rfl (Nat.le_of_ble_eq_true rfl) dX9_wax_2 hS (AE_sub (fun _ _ => rfl) (by decide) hS.1) (fun vH1 H1 locsH1 pH1 zH1 kH1 hSH1 => ?_)
  have hqH1 := pH1.1.symm
  subst hqH1
  have hvH1 := pH1.2
  subst hvH1
  refine W.eq (g2 := F0 m 5 ls [.null]) rfl ?_
  refine lv_astoreN (lv' := [(4, .null), (0, .ref a), (1, .int x0), (2, .int x1), (3, .int x2)]) hx hb dX9_wax_5 hl (by decide) rfl (fun ls2 hl3 => ?_)
  refine lv_aloadN hx hb dX9_wax_7 (lv_at hl3 0 rfl) ?_
  refine lv_ifnullN (tgt := 31) hx hb dX9_wax_9 (by decide) ?_
  refine lv_iconst (v := 0) hx hb dX9_wax_31 (by decide) ?_
  exact x_zret C hQ (Or.inl rfl) dX9_wax_32 hSH1 (by decide) (by decide) (⟨⟨0, rfl, by omega⟩, G, fun _ _ h => h, hT⟩)

set_option maxHeartbeats 4000000 in
set_option maxRecDepth 100000 in
theorem f_X9_of (l : Launch) (K : KE) (G : Nat → Option Nat) (H : Heap) {a w : Nat} (x0 : Int32) (x1 : Int32) (x2 : Int32) (hT : TY K G H) (ga : G a = some 68) (gw : G w = some 0) (fx : FX K H a w) : MX l K yX9_of cX9_of 5 (some .int) 2 43 0 0 [.ref a, .int x0, .int x1, .int x2] H (AE G [] H.size) (fun v H1 => (∃ r : Int32, v = some (.int r) ∧ (r.toInt = -1)) ∧ ∃ G1 : Nat → Option Nat, (∀ q t, G q = some t → G1 q = some t) ∧ TY K G1 H1) := by
  refine MX.of (by decide +kernel) (Nat.le_of_ble_eq_true rfl) ?_
  intro p e s m below meth c ls Q C hH hl hQ
  subst hH
  have C : CX p K s m _ meth c RX9 cX9_of 5 (some .int) "of" := C
  obtain ⟨hx, hb, hml, hown, hts, hKT, hr, hlocks, hnm⟩ := id C
  have hl : lv_has ls 5 [(0, .ref a), (1, .int x0), (2, .int x1), (3, .int x2)] := hl
  have hS : va_S (AE G [] s.heap.size) s.heap s.heap [] := va_S.rf
  have n_m1 : ((-1) : Int32).toInt = -1 := rfl
  obtain ⟨f0, f1, f2, f3, f4, f5, f6, f7, f8, f9, f10⟩ := fx
  refine lv_aload_n hx hb dX9_of_0 rfl (lv_at hl 0 rfl) ?_
  refine lv_iload_n hx hb dX9_of_1 rfl (lv_at hl 1 rfl) ?_
  refine x_V (As := [.int x0]) (rest := []) C (f_X9_barAt l K G s.heap (w := w) (x0) hT ga gw ⟨f0, f1, f2, f3, f4, f5, f6, f7, f8, f9, f10⟩) yo_X9_barAt wM_X9_78 ⟨⟨by decide, by decide⟩, by decide, by decide⟩ (x_rv C hT (ci := 9) rfl ga rg_68) rfl hl.1 rfl (Nat.le_of_ble_eq_true rfl) dX9_of_2 hS (AE_sub (fun _ _ => rfl) (by decide) hS.1) (fun vH1 H1 locsH1 pH1 zH1 kH1 hSH1 => ?_)
  have hqH1 := pH1.1.symm
  subst hqH1
  have hvH1 := pH1.2
  subst hvH1
  refine W.eq (g2 := F0 m 5 ls [.null]) rfl ?_
  refine lv_astoreN (lv' := [(4, .null), (0, .ref a), (1, .int x0), (2, .int x1), (3, .int x2)]) hx hb dX9_of_5 hl (by decide) rfl (fun ls2 hl3 => ?_)
  refine lv_aloadN hx hb dX9_of_7 (lv_at hl3 0 rfl) ?_
  refine lv_ifnullN (tgt := 21) hx hb dX9_of_9 (by decide) ?_
  refine lv_iconst (v := (-1)) hx hb dX9_of_21 (by decide) ?_
  exact x_iret C hQ dX9_of_22 hSH1 (by decide) (by decide) (⟨⟨(-1), rfl, by omega⟩, G, fun _ _ h => h, hT⟩)

set_option maxHeartbeats 4000000 in
set_option maxRecDepth 100000 in
theorem f_X9_tells (l : Launch) (K : KE) (G : Nat → Option Nat) (H : Heap) {a w : Nat} (x0 : Int32) (x1 : Int32) (x2 : Int32) (x3 : Int32) (x4 : Int32) (hT : TY K G H) (ga : G a = some 68) (gw : G w = some 0) (fx : FX K H a w) : MX l K yX9_tells cX9_tells 7 (some .int) 2 43 0 0 [.ref a, .int x0, .int x1, .int x2, .int x3, .int x4] H (AE G [] H.size) (fun v H1 => (∃ r : Int32, v = some (.int r) ∧ (r.toInt = -100000)) ∧ ∃ G1 : Nat → Option Nat, (∀ q t, G q = some t → G1 q = some t) ∧ TY K G1 H1) := by
  refine MX.of (by decide +kernel) (Nat.le_of_ble_eq_true rfl) ?_
  intro p e s m below meth c ls Q C hH hl hQ
  subst hH
  have C : CX p K s m _ meth c RX9 cX9_tells 7 (some .int) "tells" := C
  obtain ⟨hx, hb, hml, hown, hts, hKT, hr, hlocks, hnm⟩ := id C
  have hl : lv_has ls 7 [(0, .ref a), (1, .int x0), (2, .int x1), (3, .int x2), (4, .int x3), (5, .int x4)] := hl
  have hS : va_S (AE G [] s.heap.size) s.heap s.heap [] := va_S.rf
  have n_m100000 : ((-100000) : Int32).toInt = -100000 := rfl
  obtain ⟨f0, f1, f2, f3, f4, f5, f6, f7, f8, f9, f10⟩ := fx
  refine lv_aload_n hx hb dX9_tells_0 rfl (lv_at hl 0 rfl) ?_
  refine lv_iload hx hb dX9_tells_1 (lv_at hl 4 rfl) ?_
  refine x_V (As := [.int x3]) (rest := []) C (f_X9_barAt l K G s.heap (w := w) (x3) hT ga gw ⟨f0, f1, f2, f3, f4, f5, f6, f7, f8, f9, f10⟩) yo_X9_barAt wM_X9_78 ⟨⟨by decide, by decide⟩, by decide, by decide⟩ (x_rv C hT (ci := 9) rfl ga rg_68) rfl hl.1 rfl (Nat.le_of_ble_eq_true rfl) dX9_tells_3 hS (AE_sub (fun _ _ => rfl) (by decide) hS.1) (fun vH1 H1 locsH1 pH1 zH1 kH1 hSH1 => ?_)
  have hqH1 := pH1.1.symm
  subst hqH1
  have hvH1 := pH1.2
  subst hvH1
  refine W.eq (g2 := F0 m 6 ls [.null]) rfl ?_
  refine lv_astoreN (lv' := [(6, .null), (0, .ref a), (1, .int x0), (2, .int x1), (3, .int x2), (4, .int x3), (5, .int x4)]) hx hb dX9_tells_6 hl (by decide) rfl (fun ls2 hl3 => ?_)
  refine lv_aloadN hx hb dX9_tells_8 (lv_at hl3 0 rfl) ?_
  refine lv_ifnullN (tgt := 48) hx hb dX9_tells_10 (by decide) ?_
  refine lv_ldc (v := (-100000)) hx hb hown (hts _ wK_X9_153) dX9_tells_48 ?_
  exact x_iret C hQ dX9_tells_50 hSH1 (by decide) (by decide) (⟨⟨(-100000), rfl, by omega⟩, G, fun _ _ h => h, hT⟩)

set_option maxHeartbeats 4000000 in
set_option maxRecDepth 100000 in
theorem f_X9_tone (l : Launch) (K : KE) (G : Nat → Option Nat) (H : Heap) {a w : Nat} (x0 : Int32) (x1 : Int32) (hT : TY K G H) (ga : G a = some 68) (gw : G w = some 0) (fx : FX K H a w) : MX l K yX9_tone cX9_tone 4 (some .int) 2 43 0 0 [.ref a, .int x0, .int x1] H (AE G [] H.size) (fun v H1 => (∃ r : Int32, v = some (.int r) ∧ (r.toInt = -1)) ∧ ∃ G1 : Nat → Option Nat, (∀ q t, G q = some t → G1 q = some t) ∧ TY K G1 H1) := by
  refine MX.of (by decide +kernel) (Nat.le_of_ble_eq_true rfl) ?_
  intro p e s m below meth c ls Q C hH hl hQ
  subst hH
  have C : CX p K s m _ meth c RX9 cX9_tone 4 (some .int) "tone" := C
  obtain ⟨hx, hb, hml, hown, hts, hKT, hr, hlocks, hnm⟩ := id C
  have hl : lv_has ls 4 [(0, .ref a), (1, .int x0), (2, .int x1)] := hl
  have hS : va_S (AE G [] s.heap.size) s.heap s.heap [] := va_S.rf
  have n_m1 : ((-1) : Int32).toInt = -1 := rfl
  obtain ⟨f0, f1, f2, f3, f4, f5, f6, f7, f8, f9, f10⟩ := fx
  refine lv_aload_n hx hb dX9_tone_0 rfl (lv_at hl 0 rfl) ?_
  refine lv_iload_n hx hb dX9_tone_1 rfl (lv_at hl 1 rfl) ?_
  refine x_V (As := [.int x0]) (rest := []) C (f_X9_barAt l K G s.heap (w := w) (x0) hT ga gw ⟨f0, f1, f2, f3, f4, f5, f6, f7, f8, f9, f10⟩) yo_X9_barAt wM_X9_78 ⟨⟨by decide, by decide⟩, by decide, by decide⟩ (x_rv C hT (ci := 9) rfl ga rg_68) rfl hl.1 rfl (Nat.le_of_ble_eq_true rfl) dX9_tone_2 hS (AE_sub (fun _ _ => rfl) (by decide) hS.1) (fun vH1 H1 locsH1 pH1 zH1 kH1 hSH1 => ?_)
  have hqH1 := pH1.1.symm
  subst hqH1
  have hvH1 := pH1.2
  subst hvH1
  refine W.eq (g2 := F0 m 5 ls [.null]) rfl ?_
  refine lv_astore_nN (lv' := [(3, .null), (0, .ref a), (1, .int x0), (2, .int x1)]) hx hb dX9_tone_5 rfl hl (by decide) rfl (fun ls2 hl3 => ?_)
  refine lv_aload_nN hx hb dX9_tone_6 rfl (lv_at hl3 0 rfl) ?_
  refine lv_ifnullN (tgt := 17) hx hb dX9_tone_7 (by decide) ?_
  refine lv_iconst (v := (-1)) hx hb dX9_tone_17 (by decide) ?_
  exact x_iret C hQ dX9_tone_18 hSH1 (by decide) (by decide) (⟨⟨(-1), rfl, by omega⟩, G, fun _ _ h => h, hT⟩)

set_option maxHeartbeats 4000000 in
set_option maxRecDepth 100000 in
theorem f_X9_shave (l : Launch) (K : KE) (G : Nat → Option Nat) (H : Heap) {a w : Nat} (x0 : Int32) (x1 : Int32) (x2 : Int32) (hT : TY K G H) (ga : G a = some 68) (gw : G w = some 0) (fx : FX K H a w) : MX l K yX9_shave cX9_shave 5 (some .int) 2 43 0 0 [.ref a, .int x0, .int x1, .int x2] H (AE G [] H.size) (fun v H1 => (∃ r : Int32, v = some (.int r) ∧ (r.toInt = -1)) ∧ ∃ G1 : Nat → Option Nat, (∀ q t, G q = some t → G1 q = some t) ∧ TY K G1 H1) := by
  refine MX.of (by decide +kernel) (Nat.le_of_ble_eq_true rfl) ?_
  intro p e s m below meth c ls Q C hH hl hQ
  subst hH
  have C : CX p K s m _ meth c RX9 cX9_shave 5 (some .int) "shave" := C
  obtain ⟨hx, hb, hml, hown, hts, hKT, hr, hlocks, hnm⟩ := id C
  have hl : lv_has ls 5 [(0, .ref a), (1, .int x0), (2, .int x1), (3, .int x2)] := hl
  have hS : va_S (AE G [] s.heap.size) s.heap s.heap [] := va_S.rf
  have n_m1 : ((-1) : Int32).toInt = -1 := rfl
  obtain ⟨f0, f1, f2, f3, f4, f5, f6, f7, f8, f9, f10⟩ := fx
  refine lv_aload_n hx hb dX9_shave_0 rfl (lv_at hl 0 rfl) ?_
  refine lv_iload_n hx hb dX9_shave_1 rfl (lv_at hl 1 rfl) ?_
  refine x_V (As := [.int x0]) (rest := []) C (f_X9_barAt l K G s.heap (w := w) (x0) hT ga gw ⟨f0, f1, f2, f3, f4, f5, f6, f7, f8, f9, f10⟩) yo_X9_barAt wM_X9_78 ⟨⟨by decide, by decide⟩, by decide, by decide⟩ (x_rv C hT (ci := 9) rfl ga rg_68) rfl hl.1 rfl (Nat.le_of_ble_eq_true rfl) dX9_shave_2 hS (AE_sub (fun _ _ => rfl) (by decide) hS.1) (fun vH1 H1 locsH1 pH1 zH1 kH1 hSH1 => ?_)
  have hqH1 := pH1.1.symm
  subst hqH1
  have hvH1 := pH1.2
  subst hvH1
  refine W.eq (g2 := F0 m 5 ls [.null]) rfl ?_
  refine lv_astoreN (lv' := [(4, .null), (0, .ref a), (1, .int x0), (2, .int x1), (3, .int x2)]) hx hb dX9_shave_5 hl (by decide) rfl (fun ls2 hl3 => ?_)
  refine lv_aloadN hx hb dX9_shave_7 (lv_at hl3 0 rfl) ?_
  refine lv_ifnonnullN hx hb dX9_shave_9 ?_
  refine lv_iconst (v := (-1)) hx hb dX9_shave_12 (by decide) ?_
  exact x_iret C hQ dX9_shave_13 hSH1 (by decide) (by decide) (⟨⟨(-1), rfl, by omega⟩, G, fun _ _ h => h, hT⟩)

set_option maxHeartbeats 4000000 in
set_option maxRecDepth 100000 in
theorem f_X9_pass (l : Launch) (K : KE) (G : Nat → Option Nat) (H : Heap) {a w : Nat} (x0 : Int32) (x1 : Int32) (x2 : Int32) (hT : TY K G H) (ga : G a = some 68) (gw : G w = some 0) (fx : FX K H a w) : MX l K yX9_pass cX9_pass 5 (some .int) 2 43 0 0 [.ref a, .int x0, .int x1, .int x2] H (AE G [] H.size) (fun v H1 => (∃ r : Int32, v = some (.int r) ∧ (r.toInt = -1)) ∧ ∃ G1 : Nat → Option Nat, (∀ q t, G q = some t → G1 q = some t) ∧ TY K G1 H1) := by
  refine MX.of (by decide +kernel) (Nat.le_of_ble_eq_true rfl) ?_
  intro p e s m below meth c ls Q C hH hl hQ
  subst hH
  have C : CX p K s m _ meth c RX9 cX9_pass 5 (some .int) "pass" := C
  obtain ⟨hx, hb, hml, hown, hts, hKT, hr, hlocks, hnm⟩ := id C
  have hl : lv_has ls 5 [(0, .ref a), (1, .int x0), (2, .int x1), (3, .int x2)] := hl
  have hS : va_S (AE G [] s.heap.size) s.heap s.heap [] := va_S.rf
  have n_m1 : ((-1) : Int32).toInt = -1 := rfl
  obtain ⟨f0, f1, f2, f3, f4, f5, f6, f7, f8, f9, f10⟩ := fx
  refine lv_aload_n hx hb dX9_pass_0 rfl (lv_at hl 0 rfl) ?_
  refine lv_iload_n hx hb dX9_pass_1 rfl (lv_at hl 1 rfl) ?_
  refine x_V (As := [.int x0]) (rest := []) C (f_X9_barAt l K G s.heap (w := w) (x0) hT ga gw ⟨f0, f1, f2, f3, f4, f5, f6, f7, f8, f9, f10⟩) yo_X9_barAt wM_X9_78 ⟨⟨by decide, by decide⟩, by decide, by decide⟩ (x_rv C hT (ci := 9) rfl ga rg_68) rfl hl.1 rfl (Nat.le_of_ble_eq_true rfl) dX9_pass_2 hS (AE_sub (fun _ _ => rfl) (by decide) hS.1) (fun vH1 H1 locsH1 pH1 zH1 kH1 hSH1 => ?_)
  have hqH1 := pH1.1.symm
  subst hqH1
  have hvH1 := pH1.2
  subst hvH1
  refine W.eq (g2 := F0 m 5 ls [.null]) rfl ?_
  refine lv_astoreN (lv' := [(4, .null), (0, .ref a), (1, .int x0), (2, .int x1), (3, .int x2)]) hx hb dX9_pass_5 hl (by decide) rfl (fun ls2 hl3 => ?_)
  refine lv_aloadN hx hb dX9_pass_7 (lv_at hl3 0 rfl) ?_
  refine lv_ifnullN (tgt := 25) hx hb dX9_pass_9 (by decide) ?_
  refine lv_iconst (v := (-1)) hx hb dX9_pass_25 (by decide) ?_
  exact x_iret C hQ dX9_pass_26 hSH1 (by decide) (by decide) (⟨⟨(-1), rfl, by omega⟩, G, fun _ _ h => h, hT⟩)

set_option maxHeartbeats 4000000 in
set_option maxRecDepth 100000 in
theorem f_X9_goal (l : Launch) (K : KE) (G : Nat → Option Nat) (H : Heap) {a w : Nat} (x0 : Int32) (x1 : Int32) (x2 : Int32) (hT : TY K G H) (ga : G a = some 68) (gw : G w = some 0) (fx : FX K H a w) : MX l K yX9_goal cX9_goal 5 (some .boolean) 2 43 0 0 [.ref a, .int x0, .int x1, .int x2] H (AE G [] H.size) (fun v H1 => (∃ r : Int32, v = some (.int r) ∧ (r.toInt = 0)) ∧ ∃ G1 : Nat → Option Nat, (∀ q t, G q = some t → G1 q = some t) ∧ TY K G1 H1) := by
  refine MX.of (by decide +kernel) (Nat.le_of_ble_eq_true rfl) ?_
  intro p e s m below meth c ls Q C hH hl hQ
  subst hH
  have C : CX p K s m _ meth c RX9 cX9_goal 5 (some .boolean) "goal" := C
  obtain ⟨hx, hb, hml, hown, hts, hKT, hr, hlocks, hnm⟩ := id C
  have hl : lv_has ls 5 [(0, .ref a), (1, .int x0), (2, .int x1), (3, .int x2)] := hl
  have hS : va_S (AE G [] s.heap.size) s.heap s.heap [] := va_S.rf
  have n_0 : (0 : Int32).toInt = 0 := rfl
  obtain ⟨f0, f1, f2, f3, f4, f5, f6, f7, f8, f9, f10⟩ := fx
  refine lv_aload_n hx hb dX9_goal_0 rfl (lv_at hl 0 rfl) ?_
  refine lv_iload_n hx hb dX9_goal_1 rfl (lv_at hl 1 rfl) ?_
  refine x_V (As := [.int x0]) (rest := []) C (f_X9_barAt l K G s.heap (w := w) (x0) hT ga gw ⟨f0, f1, f2, f3, f4, f5, f6, f7, f8, f9, f10⟩) yo_X9_barAt wM_X9_78 ⟨⟨by decide, by decide⟩, by decide, by decide⟩ (x_rv C hT (ci := 9) rfl ga rg_68) rfl hl.1 rfl (Nat.le_of_ble_eq_true rfl) dX9_goal_2 hS (AE_sub (fun _ _ => rfl) (by decide) hS.1) (fun vH1 H1 locsH1 pH1 zH1 kH1 hSH1 => ?_)
  have hqH1 := pH1.1.symm
  subst hqH1
  have hvH1 := pH1.2
  subst hvH1
  refine W.eq (g2 := F0 m 5 ls [.null]) rfl ?_
  refine lv_astoreN (lv' := [(4, .null), (0, .ref a), (1, .int x0), (2, .int x1), (3, .int x2)]) hx hb dX9_goal_5 hl (by decide) rfl (fun ls2 hl3 => ?_)
  refine lv_aloadN hx hb dX9_goal_7 (lv_at hl3 0 rfl) ?_
  refine lv_ifnullN (tgt := 29) hx hb dX9_goal_9 (by decide) ?_
  refine lv_iconst (v := 0) hx hb dX9_goal_29 (by decide) ?_
  exact x_zret C hQ (Or.inl rfl) dX9_goal_30 hSH1 (by decide) (by decide) (⟨⟨0, rfl, by omega⟩, G, fun _ _ h => h, hT⟩)

set_option maxHeartbeats 4000000 in
set_option maxRecDepth 100000 in
theorem f_X9_state (l : Launch) (K : KE) (G : Nat → Option Nat) (H : Heap) {a w : Nat} (x0 : Int32) (x1 : Int32) (hT : TY K G H) (ga : G a = some 68) (gw : G w = some 0) (fx : FX K H a w) : MX l K yX9_state cX9_state 4 (some .int) 2 43 0 0 [.ref a, .int x0, .int x1] H (AE G [] H.size) (fun v H1 => (∃ r : Int32, v = some (.int r) ∧ (r.toInt = -2)) ∧ ∃ G1 : Nat → Option Nat, (∀ q t, G q = some t → G1 q = some t) ∧ TY K G1 H1) := by
  refine MX.of (by decide +kernel) (Nat.le_of_ble_eq_true rfl) ?_
  intro p e s m below meth c ls Q C hH hl hQ
  subst hH
  have C : CX p K s m _ meth c RX9 cX9_state 4 (some .int) "state" := C
  obtain ⟨hx, hb, hml, hown, hts, hKT, hr, hlocks, hnm⟩ := id C
  have hl : lv_has ls 4 [(0, .ref a), (1, .int x0), (2, .int x1)] := hl
  have hS : va_S (AE G [] s.heap.size) s.heap s.heap [] := va_S.rf
  have n_m2 : ((-2) : Int32).toInt = -2 := rfl
  obtain ⟨f0, f1, f2, f3, f4, f5, f6, f7, f8, f9, f10⟩ := fx
  refine lv_aload_n hx hb dX9_state_0 rfl (lv_at hl 0 rfl) ?_
  refine lv_iload_n hx hb dX9_state_1 rfl (lv_at hl 1 rfl) ?_
  refine x_V (As := [.int x0]) (rest := []) C (f_X9_barAt l K G s.heap (w := w) (x0) hT ga gw ⟨f0, f1, f2, f3, f4, f5, f6, f7, f8, f9, f10⟩) yo_X9_barAt wM_X9_78 ⟨⟨by decide, by decide⟩, by decide, by decide⟩ (x_rv C hT (ci := 9) rfl ga rg_68) rfl hl.1 rfl (Nat.le_of_ble_eq_true rfl) dX9_state_2 hS (AE_sub (fun _ _ => rfl) (by decide) hS.1) (fun vH1 H1 locsH1 pH1 zH1 kH1 hSH1 => ?_)
  have hqH1 := pH1.1.symm
  subst hqH1
  have hvH1 := pH1.2
  subst hvH1
  refine W.eq (g2 := F0 m 5 ls [.null]) rfl ?_
  refine lv_astore_nN (lv' := [(3, .null), (0, .ref a), (1, .int x0), (2, .int x1)]) hx hb dX9_state_5 rfl hl (by decide) rfl (fun ls2 hl3 => ?_)
  refine lv_aload_nN hx hb dX9_state_6 rfl (lv_at hl3 0 rfl) ?_
  refine lv_ifnonnullN hx hb dX9_state_7 ?_
  refine lv_bipush (v := (-2)) hx hb dX9_state_10 (by decide) ?_
  exact x_iret C hQ dX9_state_12 hSH1 (by decide) (by decide) (⟨⟨(-2), rfl, by omega⟩, G, fun _ _ h => h, hT⟩)

set_option maxHeartbeats 4000000 in
set_option maxRecDepth 100000 in
theorem f_X9_takes (l : Launch) (K : KE) (G : Nat → Option Nat) (H : Heap) {a w : Nat} (x0 : Int32) (x1 : Int32) (x2 : Int32) (hT : TY K G H) (ga : G a = some 68) (gw : G w = some 0) (fx : FX K H a w) : MX l K yX9_takes cX9_takes 5 (some .int) 2 43 0 0 [.ref a, .int x0, .int x1, .int x2] H (AE G [] H.size) (fun v H1 => (∃ r : Int32, v = some (.int r) ∧ (r.toInt = -10000000)) ∧ ∃ G1 : Nat → Option Nat, (∀ q t, G q = some t → G1 q = some t) ∧ TY K G1 H1) := by
  refine MX.of (by decide +kernel) (Nat.le_of_ble_eq_true rfl) ?_
  intro p e s m below meth c ls Q C hH hl hQ
  subst hH
  have C : CX p K s m _ meth c RX9 cX9_takes 5 (some .int) "takes" := C
  obtain ⟨hx, hb, hml, hown, hts, hKT, hr, hlocks, hnm⟩ := id C
  have hl : lv_has ls 5 [(0, .ref a), (1, .int x0), (2, .int x1), (3, .int x2)] := hl
  have hS : va_S (AE G [] s.heap.size) s.heap s.heap [] := va_S.rf
  have n_m10000000 : ((-10000000) : Int32).toInt = -10000000 := rfl
  obtain ⟨f0, f1, f2, f3, f4, f5, f6, f7, f8, f9, f10⟩ := fx
  refine lv_aload_n hx hb dX9_takes_0 rfl (lv_at hl 0 rfl) ?_
  refine lv_iload_n hx hb dX9_takes_1 rfl (lv_at hl 1 rfl) ?_
  refine x_V (As := [.int x0]) (rest := []) C (f_X9_barAt l K G s.heap (w := w) (x0) hT ga gw ⟨f0, f1, f2, f3, f4, f5, f6, f7, f8, f9, f10⟩) yo_X9_barAt wM_X9_78 ⟨⟨by decide, by decide⟩, by decide, by decide⟩ (x_rv C hT (ci := 9) rfl ga rg_68) rfl hl.1 rfl (Nat.le_of_ble_eq_true rfl) dX9_takes_2 hS (AE_sub (fun _ _ => rfl) (by decide) hS.1) (fun vH1 H1 locsH1 pH1 zH1 kH1 hSH1 => ?_)
  have hqH1 := pH1.1.symm
  subst hqH1
  have hvH1 := pH1.2
  subst hvH1
  refine W.eq (g2 := F0 m 5 ls [.null]) rfl ?_
  refine lv_astoreN (lv' := [(4, .null), (0, .ref a), (1, .int x0), (2, .int x1), (3, .int x2)]) hx hb dX9_takes_5 hl (by decide) rfl (fun ls2 hl3 => ?_)
  refine lv_aloadN hx hb dX9_takes_7 (lv_at hl3 0 rfl) ?_
  refine lv_ifnullN (tgt := 39) hx hb dX9_takes_9 (by decide) ?_
  refine lv_ldc (v := (-10000000)) hx hb hown (hts _ wK_X9_207) dX9_takes_39 ?_
  exact x_iret C hQ dX9_takes_41 hSH1 (by decide) (by decide) (⟨⟨(-10000000), rfl, by omega⟩, G, fun _ _ h => h, hT⟩)

set_option maxHeartbeats 4000000 in
set_option maxRecDepth 100000 in
theorem f_X9_job (l : Launch) (K : KE) (G : Nat → Option Nat) (H : Heap) {a w : Nat} (x0 : Int32) (x1 : Int32) (hT : TY K G H) (ga : G a = some 68) (gw : G w = some 0) (fx : FX K H a w) : MX l K yX9_job cX9_job 7 (some .int) 2 43 0 0 [.ref a, .int x0, .int x1] H (AE G [] H.size) (fun v H1 => (∃ r : Int32, v = some (.int r) ∧ (r.toInt = -1)) ∧ ∃ G1 : Nat → Option Nat, (∀ q t, G q = some t → G1 q = some t) ∧ TY K G1 H1) := by
  refine MX.of (by decide +kernel) (Nat.le_of_ble_eq_true rfl) ?_
  intro p e s m below meth c ls Q C hH hl hQ
  subst hH
  have C : CX p K s m _ meth c RX9 cX9_job 7 (some .int) "job" := C
  obtain ⟨hx, hb, hml, hown, hts, hKT, hr, hlocks, hnm⟩ := id C
  have hl : lv_has ls 7 [(0, .ref a), (1, .int x0), (2, .int x1)] := hl
  have hS : va_S (AE G [] s.heap.size) s.heap s.heap [] := va_S.rf
  have n_m1 : ((-1) : Int32).toInt = -1 := rfl
  obtain ⟨f0, f1, f2, f3, f4, f5, f6, f7, f8, f9, f10⟩ := fx
  refine lv_aload_n hx hb dX9_job_0 rfl (lv_at hl 0 rfl) ?_
  refine lv_iload_n hx hb dX9_job_1 rfl (lv_at hl 2 rfl) ?_
  refine x_V (As := [.int x1]) (rest := []) C (f_X9_barAt l K G s.heap (w := w) (x1) hT ga gw ⟨f0, f1, f2, f3, f4, f5, f6, f7, f8, f9, f10⟩) yo_X9_barAt wM_X9_78 ⟨⟨by decide, by decide⟩, by decide, by decide⟩ (x_rv C hT (ci := 9) rfl ga rg_68) rfl hl.1 rfl (Nat.le_of_ble_eq_true rfl) dX9_job_2 hS (AE_sub (fun _ _ => rfl) (by decide) hS.1) (fun vH1 H1 locsH1 pH1 zH1 kH1 hSH1 => ?_)
  have hqH1 := pH1.1.symm
  subst hqH1
  have hvH1 := pH1.2
  subst hvH1
  refine W.eq (g2 := F0 m 5 ls [.null]) rfl ?_
  refine lv_astore_nN (lv' := [(3, .null), (0, .ref a), (1, .int x0), (2, .int x1)]) hx hb dX9_job_5 rfl hl (by decide) rfl (fun ls2 hl3 => ?_)
  refine lv_aload_nN hx hb dX9_job_6 rfl (lv_at hl3 0 rfl) ?_
  refine lv_ifnullN (tgt := 19) hx hb dX9_job_7 (by decide) ?_
  refine lv_iconst (v := (-1)) hx hb dX9_job_19 (by decide) ?_
  exact x_iret C hQ dX9_job_20 hSH1 (by decide) (by decide) (⟨⟨(-1), rfl, by omega⟩, G, fun _ _ h => h, hT⟩)

set_option maxHeartbeats 4000000 in
set_option maxRecDepth 100000 in
theorem f_X9_fewest (l : Launch) (K : KE) (G : Nat → Option Nat) (H : Heap) {a w : Nat} (x0 : Int32) (x1 : Int32) (hT : TY K G H) (ga : G a = some 68) (gw : G w = some 0) (fx : FX K H a w) : MX l K yX9_fewest cX9_fewest 5 (some .int) 2 43 0 0 [.ref a, .int x0, .int x1] H (AE G [] H.size) (fun v H1 => (∃ r : Int32, v = some (.int r) ∧ (r.toInt = -1)) ∧ ∃ G1 : Nat → Option Nat, (∀ q t, G q = some t → G1 q = some t) ∧ TY K G1 H1) := by
  refine MX.of (by decide +kernel) (Nat.le_of_ble_eq_true rfl) ?_
  intro p e s m below meth c ls Q C hH hl hQ
  subst hH
  have C : CX p K s m _ meth c RX9 cX9_fewest 5 (some .int) "fewest" := C
  obtain ⟨hx, hb, hml, hown, hts, hKT, hr, hlocks, hnm⟩ := id C
  have hl : lv_has ls 5 [(0, .ref a), (1, .int x0), (2, .int x1)] := hl
  have hS : va_S (AE G [] s.heap.size) s.heap s.heap [] := va_S.rf
  have n_m1 : ((-1) : Int32).toInt = -1 := rfl
  obtain ⟨f0, f1, f2, f3, f4, f5, f6, f7, f8, f9, f10⟩ := fx
  refine lv_aload_n hx hb dX9_fewest_0 rfl (lv_at hl 0 rfl) ?_
  refine lv_iload_n hx hb dX9_fewest_1 rfl (lv_at hl 1 rfl) ?_
  refine x_V (As := [.int x0]) (rest := []) C (f_X9_barAt l K G s.heap (w := w) (x0) hT ga gw ⟨f0, f1, f2, f3, f4, f5, f6, f7, f8, f9, f10⟩) yo_X9_barAt wM_X9_78 ⟨⟨by decide, by decide⟩, by decide, by decide⟩ (x_rv C hT (ci := 9) rfl ga rg_68) rfl hl.1 rfl (Nat.le_of_ble_eq_true rfl) dX9_fewest_2 hS (AE_sub (fun _ _ => rfl) (by decide) hS.1) (fun vH1 H1 locsH1 pH1 zH1 kH1 hSH1 => ?_)
  have hqH1 := pH1.1.symm
  subst hqH1
  have hvH1 := pH1.2
  subst hvH1
  refine W.eq (g2 := F0 m 5 ls [.null]) rfl ?_
  refine lv_astore_nN (lv' := [(3, .null), (0, .ref a), (1, .int x0), (2, .int x1)]) hx hb dX9_fewest_5 rfl hl (by decide) rfl (fun ls2 hl3 => ?_)
  refine lv_aload_nN hx hb dX9_fewest_6 rfl (lv_at hl3 0 rfl) ?_
  refine lv_ifnullN (tgt := 28) hx hb dX9_fewest_7 (by decide) ?_
  refine lv_iconst (v := (-1)) hx hb dX9_fewest_28 (by decide) ?_
  exact x_iret C hQ dX9_fewest_29 hSH1 (by decide) (by decide) (⟨⟨(-1), rfl, by omega⟩, G, fun _ _ h => h, hT⟩)

set_option maxHeartbeats 4000000 in
set_option maxRecDepth 100000 in
theorem f_X9_tap (l : Launch) (K : KE) (G : Nat → Option Nat) (H : Heap) {a w : Nat} (x0 : Int32) (x1 : Int32) (x2 : Int32) (hT : TY K G H) (ga : G a = some 68) (gw : G w = some 0) (fx : FX K H a w) : MX l K yX9_tap cX9_tap 5 (some .int) 2 43 0 0 [.ref a, .int x0, .int x1, .int x2] H (AE G [] H.size) (fun v H1 => (∃ r : Int32, v = some (.int r) ∧ (r.toInt = -1)) ∧ ∃ G1 : Nat → Option Nat, (∀ q t, G q = some t → G1 q = some t) ∧ TY K G1 H1) := by
  refine MX.of (by decide +kernel) (Nat.le_of_ble_eq_true rfl) ?_
  intro p e s m below meth c ls Q C hH hl hQ
  subst hH
  have C : CX p K s m _ meth c RX9 cX9_tap 5 (some .int) "tap" := C
  obtain ⟨hx, hb, hml, hown, hts, hKT, hr, hlocks, hnm⟩ := id C
  have hl : lv_has ls 5 [(0, .ref a), (1, .int x0), (2, .int x1), (3, .int x2)] := hl
  have hS : va_S (AE G [] s.heap.size) s.heap s.heap [] := va_S.rf
  have n_m1 : ((-1) : Int32).toInt = -1 := rfl
  obtain ⟨f0, f1, f2, f3, f4, f5, f6, f7, f8, f9, f10⟩ := fx
  refine lv_aload_n hx hb dX9_tap_0 rfl (lv_at hl 0 rfl) ?_
  refine lv_iload_n hx hb dX9_tap_1 rfl (lv_at hl 1 rfl) ?_
  refine x_V (As := [.int x0]) (rest := []) C (f_X9_barAt l K G s.heap (w := w) (x0) hT ga gw ⟨f0, f1, f2, f3, f4, f5, f6, f7, f8, f9, f10⟩) yo_X9_barAt wM_X9_78 ⟨⟨by decide, by decide⟩, by decide, by decide⟩ (x_rv C hT (ci := 9) rfl ga rg_68) rfl hl.1 rfl (Nat.le_of_ble_eq_true rfl) dX9_tap_2 hS (AE_sub (fun _ _ => rfl) (by decide) hS.1) (fun vH1 H1 locsH1 pH1 zH1 kH1 hSH1 => ?_)
  have hqH1 := pH1.1.symm
  subst hqH1
  have hvH1 := pH1.2
  subst hvH1
  refine W.eq (g2 := F0 m 5 ls [.null]) rfl ?_
  refine lv_astoreN (lv' := [(4, .null), (0, .ref a), (1, .int x0), (2, .int x1), (3, .int x2)]) hx hb dX9_tap_5 hl (by decide) rfl (fun ls2 hl3 => ?_)
  refine lv_aloadN hx hb dX9_tap_7 (lv_at hl3 0 rfl) ?_
  refine lv_ifnullN (tgt := 39) hx hb dX9_tap_9 (by decide) ?_
  refine lv_iconst (v := (-1)) hx hb dX9_tap_39 (by decide) ?_
  exact x_iret C hQ dX9_tap_40 hSH1 (by decide) (by decide) (⟨⟨(-1), rfl, by omega⟩, G, fun _ _ h => h, hT⟩)

set_option maxHeartbeats 4000000 in
set_option maxRecDepth 100000 in
theorem f_X9_fits (l : Launch) (K : KE) (G : Nat → Option Nat) (H : Heap) {a w : Nat} (x0 : Int32) (x1 : Int32) (x2 : Int32) (x3 : Int32) (hT : TY K G H) (ga : G a = some 68) (gw : G w = some 0) (fx : FX K H a w) : MX l K yX9_fits cX9_fits 8 (some .int) 2 43 0 0 [.ref a, .int x0, .int x1, .int x2, .int x3] H (AE G [] H.size) (fun v H1 => (∃ r : Int32, v = some (.int r) ∧ (r.toInt = -1)) ∧ ∃ G1 : Nat → Option Nat, (∀ q t, G q = some t → G1 q = some t) ∧ TY K G1 H1) := by
  refine MX.of (by decide +kernel) (Nat.le_of_ble_eq_true rfl) ?_
  intro p e s m below meth c ls Q C hH hl hQ
  subst hH
  have C : CX p K s m _ meth c RX9 cX9_fits 8 (some .int) "fits" := C
  obtain ⟨hx, hb, hml, hown, hts, hKT, hr, hlocks, hnm⟩ := id C
  have hl : lv_has ls 8 [(0, .ref a), (1, .int x0), (2, .int x1), (3, .int x2), (4, .int x3)] := hl
  have hS : va_S (AE G [] s.heap.size) s.heap s.heap [] := va_S.rf
  have n_m1 : ((-1) : Int32).toInt = -1 := rfl
  obtain ⟨f0, f1, f2, f3, f4, f5, f6, f7, f8, f9, f10⟩ := fx
  refine lv_aload_n hx hb dX9_fits_0 rfl (lv_at hl 0 rfl) ?_
  refine lv_iload_n hx hb dX9_fits_1 rfl (lv_at hl 1 rfl) ?_
  refine x_V (As := [.int x0]) (rest := []) C (f_X9_barAt l K G s.heap (w := w) (x0) hT ga gw ⟨f0, f1, f2, f3, f4, f5, f6, f7, f8, f9, f10⟩) yo_X9_barAt wM_X9_78 ⟨⟨by decide, by decide⟩, by decide, by decide⟩ (x_rv C hT (ci := 9) rfl ga rg_68) rfl hl.1 rfl (Nat.le_of_ble_eq_true rfl) dX9_fits_2 hS (AE_sub (fun _ _ => rfl) (by decide) hS.1) (fun vH1 H1 locsH1 pH1 zH1 kH1 hSH1 => ?_)
  have hqH1 := pH1.1.symm
  subst hqH1
  have hvH1 := pH1.2
  subst hvH1
  refine W.eq (g2 := F0 m 5 ls [.null]) rfl ?_
  refine lv_astoreN (lv' := [(5, .null), (0, .ref a), (1, .int x0), (2, .int x1), (3, .int x2), (4, .int x3)]) hx hb dX9_fits_5 hl (by decide) rfl (fun ls2 hl3 => ?_)
  refine lv_aloadN hx hb dX9_fits_7 (lv_at hl3 0 rfl) ?_
  refine lv_ifnullN (tgt := 40) hx hb dX9_fits_9 (by decide) ?_
  refine lv_iconst (v := (-1)) hx hb dX9_fits_40 (by decide) ?_
  exact x_iret C hQ dX9_fits_41 hSH1 (by decide) (by decide) (⟨⟨(-1), rfl, by omega⟩, G, fun _ _ h => h, hT⟩)

set_option maxHeartbeats 4000000 in
set_option maxRecDepth 100000 in
theorem f_X9_still (l : Launch) (K : KE) (G : Nat → Option Nat) (H : Heap) {a w : Nat} (x0 : Int32) (x1 : Int32) (x2 : Int32) (hT : TY K G H) (ga : G a = some 68) (gw : G w = some 0) (fx : FX K H a w) : MX l K yX9_still cX9_still 6 (some .int) 2 43 0 0 [.ref a, .int x0, .int x1, .int x2] H (AE G [] H.size) (fun v H1 => (∃ r : Int32, v = some (.int r) ∧ (r.toInt = -1)) ∧ ∃ G1 : Nat → Option Nat, (∀ q t, G q = some t → G1 q = some t) ∧ TY K G1 H1) := by
  refine MX.of (by decide +kernel) (Nat.le_of_ble_eq_true rfl) ?_
  intro p e s m below meth c ls Q C hH hl hQ
  subst hH
  have C : CX p K s m _ meth c RX9 cX9_still 6 (some .int) "still" := C
  obtain ⟨hx, hb, hml, hown, hts, hKT, hr, hlocks, hnm⟩ := id C
  have hl : lv_has ls 6 [(0, .ref a), (1, .int x0), (2, .int x1), (3, .int x2)] := hl
  have hS : va_S (AE G [] s.heap.size) s.heap s.heap [] := va_S.rf
  have n_m1 : ((-1) : Int32).toInt = -1 := rfl
  obtain ⟨f0, f1, f2, f3, f4, f5, f6, f7, f8, f9, f10⟩ := fx
  refine lv_aload_n hx hb dX9_still_0 rfl (lv_at hl 0 rfl) ?_
  refine lv_iload_n hx hb dX9_still_1 rfl (lv_at hl 1 rfl) ?_
  refine x_V (As := [.int x0]) (rest := []) C (f_X9_barAt l K G s.heap (w := w) (x0) hT ga gw ⟨f0, f1, f2, f3, f4, f5, f6, f7, f8, f9, f10⟩) yo_X9_barAt wM_X9_78 ⟨⟨by decide, by decide⟩, by decide, by decide⟩ (x_rv C hT (ci := 9) rfl ga rg_68) rfl hl.1 rfl (Nat.le_of_ble_eq_true rfl) dX9_still_2 hS (AE_sub (fun _ _ => rfl) (by decide) hS.1) (fun vH1 H1 locsH1 pH1 zH1 kH1 hSH1 => ?_)
  have hqH1 := pH1.1.symm
  subst hqH1
  have hvH1 := pH1.2
  subst hvH1
  refine W.eq (g2 := F0 m 5 ls [.null]) rfl ?_
  refine lv_astoreN (lv' := [(4, .null), (0, .ref a), (1, .int x0), (2, .int x1), (3, .int x2)]) hx hb dX9_still_5 hl (by decide) rfl (fun ls2 hl3 => ?_)
  refine lv_aloadN hx hb dX9_still_7 (lv_at hl3 0 rfl) ?_
  refine lv_ifnullN (tgt := 23) hx hb dX9_still_9 (by decide) ?_
  refine lv_iconst (v := (-1)) hx hb dX9_still_23 (by decide) ?_
  exact x_iret C hQ dX9_still_24 hSH1 (by decide) (by decide) (⟨⟨(-1), rfl, by omega⟩, G, fun _ _ h => h, hT⟩)

set_option maxHeartbeats 4000000 in
set_option maxRecDepth 100000 in
theorem f_X9_holes (l : Launch) (K : KE) (G : Nat → Option Nat) (H : Heap) {a w : Nat} (x0 : Int32) (x1 : Int32) (x2 : Int32) (hT : TY K G H) (ga : G a = some 68) (gw : G w = some 0) (fx : FX K H a w) : MX l K yX9_holes cX9_holes 5 (some .boolean) 2 43 0 0 [.ref a, .int x0, .int x1, .int x2] H (AE G [] H.size) (fun v H1 => (∃ r : Int32, v = some (.int r) ∧ (r.toInt = 0)) ∧ ∃ G1 : Nat → Option Nat, (∀ q t, G q = some t → G1 q = some t) ∧ TY K G1 H1) := by
  refine MX.of (by decide +kernel) (Nat.le_of_ble_eq_true rfl) ?_
  intro p e s m below meth c ls Q C hH hl hQ
  subst hH
  have C : CX p K s m _ meth c RX9 cX9_holes 5 (some .boolean) "holes" := C
  obtain ⟨hx, hb, hml, hown, hts, hKT, hr, hlocks, hnm⟩ := id C
  have hl : lv_has ls 5 [(0, .ref a), (1, .int x0), (2, .int x1), (3, .int x2)] := hl
  have hS : va_S (AE G [] s.heap.size) s.heap s.heap [] := va_S.rf
  have n_0 : (0 : Int32).toInt = 0 := rfl
  obtain ⟨f0, f1, f2, f3, f4, f5, f6, f7, f8, f9, f10⟩ := fx
  refine lv_aload_n hx hb dX9_holes_0 rfl (lv_at hl 0 rfl) ?_
  refine lv_iload_n hx hb dX9_holes_1 rfl (lv_at hl 1 rfl) ?_
  refine x_V (As := [.int x0]) (rest := []) C (f_X9_barAt l K G s.heap (w := w) (x0) hT ga gw ⟨f0, f1, f2, f3, f4, f5, f6, f7, f8, f9, f10⟩) yo_X9_barAt wM_X9_78 ⟨⟨by decide, by decide⟩, by decide, by decide⟩ (x_rv C hT (ci := 9) rfl ga rg_68) rfl hl.1 rfl (Nat.le_of_ble_eq_true rfl) dX9_holes_2 hS (AE_sub (fun _ _ => rfl) (by decide) hS.1) (fun vH1 H1 locsH1 pH1 zH1 kH1 hSH1 => ?_)
  have hqH1 := pH1.1.symm
  subst hqH1
  have hvH1 := pH1.2
  subst hvH1
  refine W.eq (g2 := F0 m 5 ls [.null]) rfl ?_
  refine lv_astoreN (lv' := [(4, .null), (0, .ref a), (1, .int x0), (2, .int x1), (3, .int x2)]) hx hb dX9_holes_5 hl (by decide) rfl (fun ls2 hl3 => ?_)
  refine lv_aloadN hx hb dX9_holes_7 (lv_at hl3 0 rfl) ?_
  refine lv_ifnullN (tgt := 35) hx hb dX9_holes_9 (by decide) ?_
  refine lv_iconst (v := 0) hx hb dX9_holes_35 (by decide) ?_
  exact x_zret C hQ (Or.inl rfl) dX9_holes_36 hSH1 (by decide) (by decide) (⟨⟨0, rfl, by omega⟩, G, fun _ _ h => h, hT⟩)

set_option maxHeartbeats 4000000 in
set_option maxRecDepth 100000 in
theorem f_X9_tube (l : Launch) (K : KE) (G : Nat → Option Nat) (H : Heap) {a w : Nat} (x0 : Int32) (x1 : Int32) (x2 : Int32) (hT : TY K G H) (ga : G a = some 68) (gw : G w = some 0) (fx : FX K H a w) : MX l K yX9_tube cX9_tube 5 (some .boolean) 2 43 0 0 [.ref a, .int x0, .int x1, .int x2] H (AE G [] H.size) (fun v H1 => (∃ r : Int32, v = some (.int r) ∧ (r.toInt = 0)) ∧ ∃ G1 : Nat → Option Nat, (∀ q t, G q = some t → G1 q = some t) ∧ TY K G1 H1) := by
  refine MX.of (by decide +kernel) (Nat.le_of_ble_eq_true rfl) ?_
  intro p e s m below meth c ls Q C hH hl hQ
  subst hH
  have C : CX p K s m _ meth c RX9 cX9_tube 5 (some .boolean) "tube" := C
  obtain ⟨hx, hb, hml, hown, hts, hKT, hr, hlocks, hnm⟩ := id C
  have hl : lv_has ls 5 [(0, .ref a), (1, .int x0), (2, .int x1), (3, .int x2)] := hl
  have hS : va_S (AE G [] s.heap.size) s.heap s.heap [] := va_S.rf
  have n_0 : (0 : Int32).toInt = 0 := rfl
  obtain ⟨f0, f1, f2, f3, f4, f5, f6, f7, f8, f9, f10⟩ := fx
  refine lv_aload_n hx hb dX9_tube_0 rfl (lv_at hl 0 rfl) ?_
  refine lv_iload_n hx hb dX9_tube_1 rfl (lv_at hl 1 rfl) ?_
  refine x_V (As := [.int x0]) (rest := []) C (f_X9_barAt l K G s.heap (w := w) (x0) hT ga gw ⟨f0, f1, f2, f3, f4, f5, f6, f7, f8, f9, f10⟩) yo_X9_barAt wM_X9_78 ⟨⟨by decide, by decide⟩, by decide, by decide⟩ (x_rv C hT (ci := 9) rfl ga rg_68) rfl hl.1 rfl (Nat.le_of_ble_eq_true rfl) dX9_tube_2 hS (AE_sub (fun _ _ => rfl) (by decide) hS.1) (fun vH1 H1 locsH1 pH1 zH1 kH1 hSH1 => ?_)
  have hqH1 := pH1.1.symm
  subst hqH1
  have hvH1 := pH1.2
  subst hvH1
  refine W.eq (g2 := F0 m 5 ls [.null]) rfl ?_
  refine lv_astoreN (lv' := [(4, .null), (0, .ref a), (1, .int x0), (2, .int x1), (3, .int x2)]) hx hb dX9_tube_5 hl (by decide) rfl (fun ls2 hl3 => ?_)
  refine lv_aloadN hx hb dX9_tube_7 (lv_at hl3 0 rfl) ?_
  refine lv_ifnullN (tgt := 32) hx hb dX9_tube_9 (by decide) ?_
  refine lv_iconst (v := 0) hx hb dX9_tube_32 (by decide) ?_
  exact x_zret C hQ (Or.inl rfl) dX9_tube_33 hSH1 (by decide) (by decide) (⟨⟨0, rfl, by omega⟩, G, fun _ _ h => h, hT⟩)

set_option maxHeartbeats 4000000 in
set_option maxRecDepth 100000 in
theorem f_X9_in (l : Launch) (K : KE) (G : Nat → Option Nat) (H : Heap) {a w : Nat} (x0 : Int32) (x1 : Int32) (x2 : Int32) (x3 : Int32) (hT : TY K G H) (ga : G a = some 68) (gw : G w = some 0) (fx : FX K H a w) : MX l K yX9_in cX9_in 7 (some .int) 2 43 0 0 [.ref a, .int x0, .int x1, .int x2, .int x3] H (AE G [] H.size) (fun v H1 => (∃ r : Int32, v = some (.int r) ∧ (r.toInt = -1)) ∧ ∃ G1 : Nat → Option Nat, (∀ q t, G q = some t → G1 q = some t) ∧ TY K G1 H1) := by
  refine MX.of (by decide +kernel) (Nat.le_of_ble_eq_true rfl) ?_
  intro p e s m below meth c ls Q C hH hl hQ
  subst hH
  have C : CX p K s m _ meth c RX9 cX9_in 7 (some .int) "in" := C
  obtain ⟨hx, hb, hml, hown, hts, hKT, hr, hlocks, hnm⟩ := id C
  have hl : lv_has ls 7 [(0, .ref a), (1, .int x0), (2, .int x1), (3, .int x2), (4, .int x3)] := hl
  have hS : va_S (AE G [] s.heap.size) s.heap s.heap [] := va_S.rf
  have n_m1 : ((-1) : Int32).toInt = -1 := rfl
  obtain ⟨f0, f1, f2, f3, f4, f5, f6, f7, f8, f9, f10⟩ := fx
  refine lv_aload_n hx hb dX9_in_0 rfl (lv_at hl 0 rfl) ?_
  refine lv_iload_n hx hb dX9_in_1 rfl (lv_at hl 1 rfl) ?_
  refine x_V (As := [.int x0]) (rest := []) C (f_X9_barAt l K G s.heap (w := w) (x0) hT ga gw ⟨f0, f1, f2, f3, f4, f5, f6, f7, f8, f9, f10⟩) yo_X9_barAt wM_X9_78 ⟨⟨by decide, by decide⟩, by decide, by decide⟩ (x_rv C hT (ci := 9) rfl ga rg_68) rfl hl.1 rfl (Nat.le_of_ble_eq_true rfl) dX9_in_2 hS (AE_sub (fun _ _ => rfl) (by decide) hS.1) (fun vH1 H1 locsH1 pH1 zH1 kH1 hSH1 => ?_)
  have hqH1 := pH1.1.symm
  subst hqH1
  have hvH1 := pH1.2
  subst hvH1
  refine W.eq (g2 := F0 m 5 ls [.null]) rfl ?_
  refine lv_astoreN (lv' := [(5, .null), (0, .ref a), (1, .int x0), (2, .int x1), (3, .int x2), (4, .int x3)]) hx hb dX9_in_5 hl (by decide) rfl (fun ls2 hl3 => ?_)
  refine lv_aloadN hx hb dX9_in_7 (lv_at hl3 0 rfl) ?_
  refine lv_ifnullN (tgt := 30) hx hb dX9_in_9 (by decide) ?_
  refine lv_iconst (v := (-1)) hx hb dX9_in_30 (by decide) ?_
  exact x_iret C hQ dX9_in_31 hSH1 (by decide) (by decide) (⟨⟨(-1), rfl, by omega⟩, G, fun _ _ h => h, hT⟩)

set_option maxHeartbeats 4000000 in
set_option maxRecDepth 100000 in
theorem f_X9_down (l : Launch) (K : KE) (G : Nat → Option Nat) (H : Heap) {a w : Nat} (x0 : Int32) (hT : TY K G H) (ga : G a = some 68) (gw : G w = some 0) (fx : FX K H a w) : MX l K yX9_down cX9_down 7 (some .int) 2 43 0 0 [.ref a, .int x0] H (AE G [] H.size) (fun v H1 => (∃ r : Int32, v = some (.int r) ∧ (r.toInt = -1)) ∧ ∃ G1 : Nat → Option Nat, (∀ q t, G q = some t → G1 q = some t) ∧ TY K G1 H1) := by
  refine MX.of (by decide +kernel) (Nat.le_of_ble_eq_true rfl) ?_
  intro p e s m below meth c ls Q C hH hl hQ
  subst hH
  have C : CX p K s m _ meth c RX9 cX9_down 7 (some .int) "down" := C
  obtain ⟨hx, hb, hml, hown, hts, hKT, hr, hlocks, hnm⟩ := id C
  have hl : lv_has ls 7 [(0, .ref a), (1, .int x0)] := hl
  have hS : va_S (AE G [] s.heap.size) s.heap s.heap [] := va_S.rf
  have n_m1 : ((-1) : Int32).toInt = -1 := rfl
  obtain ⟨f0, f1, f2, f3, f4, f5, f6, f7, f8, f9, f10⟩ := fx
  refine lv_aload_n hx hb dX9_down_0 rfl (lv_at hl 0 rfl) ?_
  refine lv_iload_n hx hb dX9_down_1 rfl (lv_at hl 1 rfl) ?_
  refine x_V (As := [.int x0]) (rest := []) C (f_X9_barAt l K G s.heap (w := w) (x0) hT ga gw ⟨f0, f1, f2, f3, f4, f5, f6, f7, f8, f9, f10⟩) yo_X9_barAt wM_X9_78 ⟨⟨by decide, by decide⟩, by decide, by decide⟩ (x_rv C hT (ci := 9) rfl ga rg_68) rfl hl.1 rfl (Nat.le_of_ble_eq_true rfl) dX9_down_2 hS (AE_sub (fun _ _ => rfl) (by decide) hS.1) (fun vH1 H1 locsH1 pH1 zH1 kH1 hSH1 => ?_)
  have hqH1 := pH1.1.symm
  subst hqH1
  have hvH1 := pH1.2
  subst hvH1
  refine W.eq (g2 := F0 m 5 ls [.null]) rfl ?_
  refine lv_astore_nN (lv' := [(2, .null), (0, .ref a), (1, .int x0)]) hx hb dX9_down_5 rfl hl (by decide) rfl (fun ls2 hl3 => ?_)
  refine lv_aload_nN hx hb dX9_down_6 rfl (lv_at hl3 0 rfl) ?_
  refine lv_ifnonnullN hx hb dX9_down_7 ?_
  refine lv_iconst (v := (-1)) hx hb dX9_down_10 (by decide) ?_
  exact x_iret C hQ dX9_down_11 hSH1 (by decide) (by decide) (⟨⟨(-1), rfl, by omega⟩, G, fun _ _ h => h, hT⟩)

set_option maxHeartbeats 4000000 in
set_option maxRecDepth 100000 in
theorem f_X9_enough (l : Launch) (K : KE) (G : Nat → Option Nat) (H : Heap) {a w : Nat} (x0 : Int32) (x1 : Int32) (x2 : Int32) (hT : TY K G H) (ga : G a = some 68) (gw : G w = some 0) (fx : FX K H a w) : MX l K yX9_enough cX9_enough 9 (some .int) 2 43 0 0 [.ref a, .int x0, .int x1, .int x2] H (AE G [] H.size) (fun v H1 => (∃ r : Int32, v = some (.int r) ∧ (r.toInt = -1)) ∧ ∃ G1 : Nat → Option Nat, (∀ q t, G q = some t → G1 q = some t) ∧ TY K G1 H1) := by
  refine MX.of (by decide +kernel) (Nat.le_of_ble_eq_true rfl) ?_
  intro p e s m below meth c ls Q C hH hl hQ
  subst hH
  have C : CX p K s m _ meth c RX9 cX9_enough 9 (some .int) "enough" := C
  obtain ⟨hx, hb, hml, hown, hts, hKT, hr, hlocks, hnm⟩ := id C
  have hl : lv_has ls 9 [(0, .ref a), (1, .int x0), (2, .int x1), (3, .int x2)] := hl
  have hS : va_S (AE G [] s.heap.size) s.heap s.heap [] := va_S.rf
  have n_m1 : ((-1) : Int32).toInt = -1 := rfl
  obtain ⟨f0, f1, f2, f3, f4, f5, f6, f7, f8, f9, f10⟩ := fx
  refine lv_aload_n hx hb dX9_enough_0 rfl (lv_at hl 0 rfl) ?_
  refine lv_iload_n hx hb dX9_enough_1 rfl (lv_at hl 1 rfl) ?_
  refine x_V (As := [.int x0]) (rest := []) C (f_X9_barAt l K G s.heap (w := w) (x0) hT ga gw ⟨f0, f1, f2, f3, f4, f5, f6, f7, f8, f9, f10⟩) yo_X9_barAt wM_X9_78 ⟨⟨by decide, by decide⟩, by decide, by decide⟩ (x_rv C hT (ci := 9) rfl ga rg_68) rfl hl.1 rfl (Nat.le_of_ble_eq_true rfl) dX9_enough_2 hS (AE_sub (fun _ _ => rfl) (by decide) hS.1) (fun vH1 H1 locsH1 pH1 zH1 kH1 hSH1 => ?_)
  have hqH1 := pH1.1.symm
  subst hqH1
  have hvH1 := pH1.2
  subst hvH1
  refine W.eq (g2 := F0 m 5 ls [.null]) rfl ?_
  refine lv_astoreN (lv' := [(4, .null), (0, .ref a), (1, .int x0), (2, .int x1), (3, .int x2)]) hx hb dX9_enough_5 hl (by decide) rfl (fun ls2 hl3 => ?_)
  refine lv_aloadN hx hb dX9_enough_7 (lv_at hl3 0 rfl) ?_
  refine lv_ifnullN (tgt := 38) hx hb dX9_enough_9 (by decide) ?_
  refine lv_iconst (v := (-1)) hx hb dX9_enough_38 (by decide) ?_
  exact x_iret C hQ dX9_enough_39 hSH1 (by decide) (by decide) (⟨⟨(-1), rfl, by omega⟩, G, fun _ _ h => h, hT⟩)

set_option maxHeartbeats 4000000 in
set_option maxRecDepth 100000 in
theorem f_X9_end (l : Launch) (K : KE) (G : Nat → Option Nat) (H : Heap) {a w : Nat} (x0 : Int32) (hT : TY K G H) (ga : G a = some 68) (gw : G w = some 0) (fx : FX K H a w) : MX l K yX9_end cX9_end 2 (some .boolean) 0 0 0 0 [.ref a, .int x0] H (AE G [68] H.size) (fun v H1 => (∃ r : Int32, v = some (.int r) ∧ ((x0.toInt = 0 ∧ r.toInt = 1) ∨ (x0.toInt ≠ 0 ∧ r.toInt = 0))) ∧ ∃ G1 : Nat → Option Nat, (∀ q t, G q = some t → G1 q = some t) ∧ TY K G1 H1) := by
  refine MX.of (by decide +kernel) (Nat.le_of_ble_eq_true rfl) ?_
  intro p e s m below meth c ls Q C hH hl hQ
  subst hH
  have C : CX p K s m _ meth c RX9 cX9_end 2 (some .boolean) "end" := C
  obtain ⟨hx, hb, hml, hown, hts, hKT, hr, hlocks, hnm⟩ := id C
  have hl : lv_has ls 2 [(0, .ref a), (1, .int x0)] := hl
  have hS : va_S (AE G [68] s.heap.size) s.heap s.heap [] := va_S.rf
  have n_0 : (0 : Int32).toInt = 0 := rfl
  have n_1 : (1 : Int32).toInt = 1 := rfl
  obtain ⟨f0, f1, f2, f3, f4, f5, f6, f7, f8, f9, f10⟩ := fx
  refine lv_iload_n hx hb dX9_end_0 rfl (lv_at hl 1 rfl) ?_
  refine lv_if_lt (tgt := 12) hx hb dX9_end_1 (by decide) (fun c1 => ?_) (fun c1 => ?_)
  · have k2 := i_lt c1
    refine lv_iconst (v := 0) hx hb dX9_end_12 (by decide) ?_
    exact x_zret C hQ (Or.inl rfl) dX9_end_13 hS (by decide) (by decide) (⟨⟨0, rfl, by omega⟩, G, fun _ _ h => h, hT⟩)
  · have k2 := i_nlt c1
    refine lv_iload_n hx hb dX9_end_4 rfl (lv_at hl 1 rfl) ?_
    refine lv_aload_n hx hb dX9_end_5 rfl (lv_at hl 0 rfl) ?_
    refine x_gi C hT (ci := 9) (k := 3) rfl inX9 (by decide) wF_X9_105 ga rg_68 rfl dX9_end_6 (fun x3 ex3 bx3 => ?_)
    have ux3 : x3 = 0 := ex3.trans f2
    subst ux3
    refine lv_icmp_le (tgt := 14) hx hb dX9_end_9 (by decide) (fun c4 => ?_) (fun c4 => ?_)
    · have k5 := i_le c4
      refine lv_aload_n hx hb dX9_end_14 rfl (lv_at hl 0 rfl) ?_
      refine lv_iload_n hx hb dX9_end_15 rfl (lv_at hl 1 rfl) ?_
      refine x_put C hT hS (ci := 9) (k := 3) (v := .int x0) (ty0 := tyX9) rfl inX9 tyX9_ok nmX9 (by decide) rfl wF_X9_105 ga rg_68 rfl rfl (okI (by have := i_rng x0; omega) (by have := i_rng x0; omega)) rfl rfl (AE_in ga (by decide)) dX9_end_16 (fun H6 locsH6 hTH6 hSH6 wH6 => ?_)
      have m7 := f0.trans (Wr.neR wH6 (Or.inr (x_apart hKT hts inX9 tyX9 tyX9_ok nmX9 rfl 0 3 (by decide) (by decide) (by decide)))).symm
      have m8 := (Wr.neV wH6 (Or.inr (x_apart hKT hts inX9 tyX9 tyX9_ok nmX9 rfl 1 3 (by decide) (by decide) (by decide)))).trans f1
      have m10 := (Wr.neI wH6 (Or.inl (G_ne gw ga (by decide)))).trans f3
      have m11 := (Wr.neI wH6 (Or.inl (G_ne gw ga (by decide)))).trans f4
      have m12 := (Wr.neI wH6 (Or.inl (G_ne gw ga (by decide)))).trans f5
      have m13 := (Wr.neI wH6 (Or.inl (G_ne gw ga (by decide)))).trans f6
      have m14 := (Wr.neI wH6 (Or.inl (G_ne gw ga (by decide)))).trans f7
      have m15 := (Wr.neI wH6 (Or.inl (G_ne gw ga (by decide)))).trans f8
      have m16 := (Wr.neI wH6 (Or.inl (G_ne gw ga (by decide)))).trans f9
      have m17 := (Wr.neI wH6 (Or.inl (G_ne gw ga (by decide)))).trans f10
      have m18 := Wr.I wH6
      have m18 := m18.symm
      refine lv_iconst (v := 1) hx hb dX9_end_19 (by decide) ?_
      exact x_zret C hQ (Or.inr rfl) dX9_end_20 hSH6 (by decide) (by decide) (⟨⟨1, rfl, by omega⟩, G, fun _ _ h => h, hTH6⟩)
    · have k5 := i_nle c4
      refine lv_iconst (v := 0) hx hb dX9_end_12 (by decide) ?_
      exact x_zret C hQ (Or.inl rfl) dX9_end_13 hS (by decide) (by decide) (⟨⟨0, rfl, by omega⟩, G, fun _ _ h => h, hT⟩)

set_option maxHeartbeats 4000000 in
set_option maxRecDepth 100000 in
theorem f_X9_fault (l : Launch) (K : KE) (G : Nat → Option Nat) (H : Heap) {a w : Nat} (x0 : Int32) (hT : TY K G H) (ga : G a = some 68) (gw : G w = some 0) (fx : FX K H a w) : MX l K yX9_fault cX9_fault 2 (some .int) 0 0 0 0 [.ref a, .int x0] H (AE G [] H.size) (fun v H1 => (∃ r : Int32, v = some (.int r) ∧ ((x0.toInt = 0 ∧ r.toInt = 0) ∨ (x0.toInt ≠ 0 ∧ r.toInt = -1))) ∧ ∃ G1 : Nat → Option Nat, (∀ q t, G q = some t → G1 q = some t) ∧ TY K G1 H1) := by
  refine MX.of (by decide +kernel) (Nat.le_of_ble_eq_true rfl) ?_
  intro p e s m below meth c ls Q C hH hl hQ
  subst hH
  have C : CX p K s m _ meth c RX9 cX9_fault 2 (some .int) "fault" := C
  obtain ⟨hx, hb, hml, hown, hts, hKT, hr, hlocks, hnm⟩ := id C
  have hl : lv_has ls 2 [(0, .ref a), (1, .int x0)] := hl
  have hS : va_S (AE G [] s.heap.size) s.heap s.heap [] := va_S.rf
  have n_m1 : ((-1) : Int32).toInt = -1 := rfl
  have n_0 : (0 : Int32).toInt = 0 := rfl
  have n_1 : (1 : Int32).toInt = 1 := rfl
  obtain ⟨f0, f1, f2, f3, f4, f5, f6, f7, f8, f9, f10⟩ := fx
  refine lv_iload_n hx hb dX9_fault_0 rfl (lv_at hl 1 rfl) ?_
  by_cases c1 : x0 = 0
  · have kc1 := i_eq c1
    refine lv_lookup (tgt := 28) (off := 27) hx hb dX9_fault_1 (by decide) (by rw [c1]; rfl) (by decide) ?_
    refine lv_aload_n hx hb dX9_fault_28 rfl (lv_at hl 0 rfl) ?_
    refine x_gr C hT (ci := 9) (k := 0) rfl inX9 (by decide) wF_X9_12 ga rg_68 rfl dX9_fault_29 (fun q2 eq2 gq2 => ?_)
    have uq2 : w = q2 := (f0).trans eq2.symm
    subst uq2
    refine x_gi C hT (ci := 8) (k := 6) rfl inX8 (by decide) wF_X9_111 gw rg_0 rfl dX9_fault_32 (fun x3 ex3 bx3 => ?_)
    have ux3 : x3 = 0 := ex3.trans f6
    subst ux3
    exact x_iret C hQ dX9_fault_35 hS (by decide) (by decide) (⟨⟨0, rfl, by omega⟩, G, fun _ _ h => h, hT⟩)
  have kc1 := i_ne c1
  by_cases c4 : x0 = 1
  · have kc4 := i_eq c4
    refine lv_lookup (tgt := 36) (off := 35) hx hb dX9_fault_1 (by decide) (by rw [c4]; rfl) (by decide) ?_
    refine lv_aload_n hx hb dX9_fault_36 rfl (lv_at hl 0 rfl) ?_
    refine x_gr C hT (ci := 9) (k := 0) rfl inX9 (by decide) wF_X9_12 ga rg_68 rfl dX9_fault_37 (fun q5 eq5 gq5 => ?_)
    have uq5 : w = q5 := (f0).trans eq5.symm
    subst uq5
    refine x_gi C hT (ci := 8) (k := 7) rfl inX8 (by decide) wF_X9_114 gw rg_0 rfl dX9_fault_40 (fun x6 ex6 bx6 => ?_)
    have ux6 : x6 = (-1) := ex6.trans f7
    subst ux6
    exact x_iret C hQ dX9_fault_43 hS (by decide) (by decide) (⟨⟨(-1), rfl, by omega⟩, G, fun _ _ h => h, hT⟩)
  have kc4 := i_ne c4
  refine lv_lookup (tgt := 44) (off := 43) hx hb dX9_fault_1 (by decide) (show Op.lookupswitch.offset [(0, 27), (1, 35)] 43 x0.toInt = 43 by rw [lv_osw (a := 0) c1 rfl, lv_osw (a := 1) c4 rfl]; rfl) (by decide) ?_
  refine lv_iconst (v := (-1)) hx hb dX9_fault_44 (by decide) ?_
  exact x_iret C hQ dX9_fault_45 hS (by decide) (by decide) (⟨⟨(-1), rfl, by omega⟩, G, fun _ _ h => h, hT⟩)

set_option maxHeartbeats 4000000 in
set_option maxRecDepth 100000 in
theorem f_X9_force (l : Launch) (K : KE) (G : Nat → Option Nat) (H : Heap) {a w : Nat} (x0 : Int32) (hT : TY K G H) (ga : G a = some 68) (gw : G w = some 0) (fx : FX K H a w) : MX l K yX9_force cX9_force 3 (some .int) 1 22 0 0 [.ref a, .int x0] H (AE G [0] H.size) (fun v H1 => (∃ r : Int32, v = some (.int r) ∧ ((0 ≤ x0.toInt ∧ x0.toInt ≤ 1 ∧ r.toInt = 0) ∨ (¬ (0 ≤ x0.toInt ∧ x0.toInt ≤ 1) ∧ r.toInt = -1))) ∧ ∃ G1 : Nat → Option Nat, (∀ q t, G q = some t → G1 q = some t) ∧ TY K G1 H1) := by
  refine MX.of (by decide +kernel) (Nat.le_of_ble_eq_true rfl) ?_
  intro p e s m below meth c ls Q C hH hl hQ
  subst hH
  have C : CX p K s m _ meth c RX9 cX9_force 3 (some .int) "force" := C
  obtain ⟨hx, hb, hml, hown, hts, hKT, hr, hlocks, hnm⟩ := id C
  have hl : lv_has ls 3 [(0, .ref a), (1, .int x0)] := hl
  have hS : va_S (AE G [0] s.heap.size) s.heap s.heap [] := va_S.rf
  have n_m1 : ((-1) : Int32).toInt = -1 := rfl
  have n_0 : (0 : Int32).toInt = 0 := rfl
  have n_1 : (1 : Int32).toInt = 1 := rfl
  obtain ⟨f0, f1, f2, f3, f4, f5, f6, f7, f8, f9, f10⟩ := fx
  refine lv_iload_n hx hb dX9_force_0 rfl (lv_at hl 1 rfl) ?_
  refine lv_iconst (v := 0) hx hb dX9_force_1 (by decide) ?_
  refine lv_iconst (v := 1) hx hb dX9_force_2 (by decide) ?_
  refine x_S (As := [.int x0, .int 0, .int 1]) (rest := []) C (c_X9_within l K G s.heap (x0) (0) (1) hT) yo_X9_within wM_X9_89 ⟨⟨by decide, by decide⟩, by decide, by decide⟩ rfl hl.1 rfl (Nat.le_of_ble_eq_true rfl) dX9_force_3 hS (AE_sub (fun _ _ => rfl) (by decide) hS.1) (fun vH1 H1 locsH1 pH1 zH1 kH1 hSH1 => ?_)
  have hqH1 := pH1.1.symm
  subst hqH1
  rcases pH1.2 with ⟨hvH1, hcH1⟩ | ⟨hvH1, hcH1⟩
  · subst hvH1
    refine W.eq (g2 := F0 m 6 ls [.int 1]) rfl ?_
    refine lv_if_ne (tgt := 11) hx hb dX9_force_6 (by decide) (fun c2 => ?_) (fun c2 => ?_)
    · have k3 := i_ne c2
      refine lv_aload_n hx hb dX9_force_11 rfl (lv_at hl 0 rfl) ?_
      refine x_gr C hT (ci := 9) (k := 0) rfl inX9 (by decide) wF_X9_12 ga rg_68 rfl dX9_force_12 (fun q4 eq4 gq4 => ?_)
      have uq4 : w = q4 := (f0).trans eq4.symm
      subst uq4
      refine x_gi C hT (ci := 8) (k := 4) rfl inX8 (by decide) wF_X9_147 gw rg_0 rfl dX9_force_15 (fun x5 ex5 bx5 => ?_)
      have ux5 : x5 = 0 := ex5.trans f4
      subst ux5
      refine lv_istore_n (lv' := [(2, .int 0), (0, .ref a), (1, .int x0)]) hx hb dX9_force_18 rfl hl (by decide) rfl (fun ls6 hl7 => ?_)
      refine lv_aload_n hx hb dX9_force_19 rfl (lv_at hl7 1 rfl) ?_
      refine x_gr C hT (ci := 9) (k := 0) rfl inX9 (by decide) wF_X9_12 ga rg_68 rfl dX9_force_20 (fun q8 eq8 gq8 => ?_)
      have uq8 : w = q8 := (f0).trans eq8.symm
      subst uq8
      refine lv_iload_n hx hb dX9_force_23 rfl (lv_at hl7 2 rfl) ?_
      refine x_put C hT hSH1 (ci := 8) (k := 4) (v := .int x0) (ty0 := tyX8) rfl inX8 tyX8_ok nmX8 (by decide) rfl wF_X9_147 gw rg_0 rfl rfl (okI (by have := i_rng x0; omega) (by have := i_rng x0; omega)) rfl rfl (AE_in gw (by decide)) dX9_force_24 (fun H9 locsH9 hTH9 hSH9 wH9 => ?_)
      have m10 := f0.trans (Wr.neR wH9 (Or.inl (G_ne ga gw (by decide)))).symm
      have m11 := (Wr.neV wH9 (Or.inl (G_ne ga gw (by decide)))).trans f1
      have m12 := (Wr.neI wH9 (Or.inl (G_ne ga gw (by decide)))).trans f2
      have m13 := (Wr.neI wH9 (Or.inr (x_apart hKT hts inX8 tyX8 tyX8_ok nmX8 rfl 1 4 (by decide) (by decide) (by decide)))).trans f3
      have m15 := (Wr.neI wH9 (Or.inr (x_apart hKT hts inX8 tyX8 tyX8_ok nmX8 rfl 5 4 (by decide) (by decide) (by decide)))).trans f5
      have m16 := (Wr.neI wH9 (Or.inr (x_apart hKT hts inX8 tyX8 tyX8_ok nmX8 rfl 6 4 (by decide) (by decide) (by decide)))).trans f6
      have m17 := (Wr.neI wH9 (Or.inr (x_apart hKT hts inX8 tyX8 tyX8_ok nmX8 rfl 7 4 (by decide) (by decide) (by decide)))).trans f7
      have m18 := (Wr.neI wH9 (Or.inr (x_apart hKT hts inX8 tyX8 tyX8_ok nmX8 rfl 10 4 (by decide) (by decide) (by decide)))).trans f8
      have m19 := (Wr.neI wH9 (Or.inr (x_apart hKT hts inX8 tyX8 tyX8_ok nmX8 rfl 13 4 (by decide) (by decide) (by decide)))).trans f9
      have m20 := (Wr.neI wH9 (Or.inr (x_apart hKT hts inX8 tyX8 tyX8_ok nmX8 rfl 16 4 (by decide) (by decide) (by decide)))).trans f10
      have m21 := Wr.I wH9
      have m21 := m21.symm
      refine lv_iload_n hx hb dX9_force_27 rfl (lv_at hl7 0 rfl) ?_
      exact x_iret C hQ dX9_force_28 hSH9 (by decide) (by decide) (⟨⟨0, rfl, by omega⟩, G, fun _ _ h => h, hTH9⟩)
    · have k3 := i_eq c2
      exfalso
      omega
  · subst hvH1
    refine W.eq (g2 := F0 m 6 ls [.int 0]) rfl ?_
    refine lv_if_ne (tgt := 11) hx hb dX9_force_6 (by decide) (fun c22 => ?_) (fun c22 => ?_)
    · have k23 := i_ne c22
      exfalso
      omega
    · have k23 := i_eq c22
      refine lv_iconst (v := (-1)) hx hb dX9_force_9 (by decide) ?_
      exact x_iret C hQ dX9_force_10 hSH1 (by decide) (by decide) (⟨⟨(-1), rfl, by omega⟩, G, fun _ _ h => h, hT⟩)

set_option maxHeartbeats 4000000 in
set_option maxRecDepth 100000 in
theorem f_X9_slack (l : Launch) (K : KE) (G : Nat → Option Nat) (H : Heap) {a w : Nat} (x0 : Int32) (hT : TY K G H) (ga : G a = some 68) (gw : G w = some 0) (fx : FX K H a w) : MX l K yX9_slack cX9_slack 2 (some .boolean) 1 22 0 0 [.ref a, .int x0] H (AE G [0] H.size) (fun v H1 => (∃ r : Int32, v = some (.int r) ∧ ((0 ≤ x0.toInt ∧ x0.toInt ≤ 9999 ∧ r.toInt = 1) ∨ (¬ (0 ≤ x0.toInt ∧ x0.toInt ≤ 9999) ∧ r.toInt = 0))) ∧ ∃ G1 : Nat → Option Nat, (∀ q t, G q = some t → G1 q = some t) ∧ TY K G1 H1) := by
  refine MX.of (by decide +kernel) (Nat.le_of_ble_eq_true rfl) ?_
  intro p e s m below meth c ls Q C hH hl hQ
  subst hH
  have C : CX p K s m _ meth c RX9 cX9_slack 2 (some .boolean) "slack" := C
  obtain ⟨hx, hb, hml, hown, hts, hKT, hr, hlocks, hnm⟩ := id C
  have hl : lv_has ls 2 [(0, .ref a), (1, .int x0)] := hl
  have hS : va_S (AE G [0] s.heap.size) s.heap s.heap [] := va_S.rf
  have n_0 : (0 : Int32).toInt = 0 := rfl
  have n_1 : (1 : Int32).toInt = 1 := rfl
  have n_9999 : (9999 : Int32).toInt = 9999 := rfl
  obtain ⟨f0, f1, f2, f3, f4, f5, f6, f7, f8, f9, f10⟩ := fx
  refine lv_iload_n hx hb dX9_slack_0 rfl (lv_at hl 1 rfl) ?_
  refine lv_iconst (v := 0) hx hb dX9_slack_1 (by decide) ?_
  refine lv_sipush (v := 9999) hx hb dX9_slack_2 (by decide) ?_
  refine x_S (As := [.int x0, .int 0, .int 9999]) (rest := []) C (c_X9_within l K G s.heap (x0) (0) (9999) hT) yo_X9_within wM_X9_89 ⟨⟨by decide, by decide⟩, by decide, by decide⟩ rfl hl.1 rfl (Nat.le_of_ble_eq_true rfl) dX9_slack_5 hS (AE_sub (fun _ _ => rfl) (by decide) hS.1) (fun vH1 H1 locsH1 pH1 zH1 kH1 hSH1 => ?_)
  have hqH1 := pH1.1.symm
  subst hqH1
  rcases pH1.2 with ⟨hvH1, hcH1⟩ | ⟨hvH1, hcH1⟩
  · subst hvH1
    refine W.eq (g2 := F0 m 8 ls [.int 1]) rfl ?_
    refine lv_if_ne (tgt := 13) hx hb dX9_slack_8 (by decide) (fun c2 => ?_) (fun c2 => ?_)
    · have k3 := i_ne c2
      refine lv_aload_n hx hb dX9_slack_13 rfl (lv_at hl 0 rfl) ?_
      refine x_gr C hT (ci := 9) (k := 0) rfl inX9 (by decide) wF_X9_12 ga rg_68 rfl dX9_slack_14 (fun q4 eq4 gq4 => ?_)
      have uq4 : w = q4 := (f0).trans eq4.symm
      subst uq4
      refine lv_iload_n hx hb dX9_slack_17 rfl (lv_at hl 1 rfl) ?_
      refine x_put C hT hSH1 (ci := 8) (k := 5) (v := .int x0) (ty0 := tyX8) rfl inX8 tyX8_ok nmX8 (by decide) rfl wF_X9_184 gw rg_0 rfl rfl (okI (by have := i_rng x0; omega) (by have := i_rng x0; omega)) rfl rfl (AE_in gw (by decide)) dX9_slack_18 (fun H5 locsH5 hTH5 hSH5 wH5 => ?_)
      have m6 := f0.trans (Wr.neR wH5 (Or.inl (G_ne ga gw (by decide)))).symm
      have m7 := (Wr.neV wH5 (Or.inl (G_ne ga gw (by decide)))).trans f1
      have m8 := (Wr.neI wH5 (Or.inl (G_ne ga gw (by decide)))).trans f2
      have m9 := (Wr.neI wH5 (Or.inr (x_apart hKT hts inX8 tyX8 tyX8_ok nmX8 rfl 1 5 (by decide) (by decide) (by decide)))).trans f3
      have m10 := (Wr.neI wH5 (Or.inr (x_apart hKT hts inX8 tyX8 tyX8_ok nmX8 rfl 4 5 (by decide) (by decide) (by decide)))).trans f4
      have m12 := (Wr.neI wH5 (Or.inr (x_apart hKT hts inX8 tyX8 tyX8_ok nmX8 rfl 6 5 (by decide) (by decide) (by decide)))).trans f6
      have m13 := (Wr.neI wH5 (Or.inr (x_apart hKT hts inX8 tyX8 tyX8_ok nmX8 rfl 7 5 (by decide) (by decide) (by decide)))).trans f7
      have m14 := (Wr.neI wH5 (Or.inr (x_apart hKT hts inX8 tyX8 tyX8_ok nmX8 rfl 10 5 (by decide) (by decide) (by decide)))).trans f8
      have m15 := (Wr.neI wH5 (Or.inr (x_apart hKT hts inX8 tyX8 tyX8_ok nmX8 rfl 13 5 (by decide) (by decide) (by decide)))).trans f9
      have m16 := (Wr.neI wH5 (Or.inr (x_apart hKT hts inX8 tyX8 tyX8_ok nmX8 rfl 16 5 (by decide) (by decide) (by decide)))).trans f10
      have m17 := Wr.I wH5
      have m17 := m17.symm
      refine lv_iconst (v := 1) hx hb dX9_slack_21 (by decide) ?_
      exact x_zret C hQ (Or.inr rfl) dX9_slack_22 hSH5 (by decide) (by decide) (⟨⟨1, rfl, by omega⟩, G, fun _ _ h => h, hTH5⟩)
    · have k3 := i_eq c2
      exfalso
      omega
  · subst hvH1
    refine W.eq (g2 := F0 m 8 ls [.int 0]) rfl ?_
    refine lv_if_ne (tgt := 13) hx hb dX9_slack_8 (by decide) (fun c18 => ?_) (fun c18 => ?_)
    · have k19 := i_ne c18
      exfalso
      omega
    · have k19 := i_eq c18
      refine lv_iconst (v := 0) hx hb dX9_slack_11 (by decide) ?_
      exact x_zret C hQ (Or.inl rfl) dX9_slack_12 hSH1 (by decide) (by decide) (⟨⟨0, rfl, by omega⟩, G, fun _ _ h => h, hT⟩)

set_option maxHeartbeats 4000000 in
set_option maxRecDepth 100000 in
theorem f_X9_night (l : Launch) (K : KE) (G : Nat → Option Nat) (H : Heap) {a w : Nat} (x0 : Int32) (x1 : Int32) (hT : TY K G H) (ga : G a = some 68) (gw : G w = some 0) (fx : FX K H a w) : MX l K yX9_night cX9_night 3 (some .int) 2 43 0 0 [.ref a, .int x0, .int x1] H (AE G [0, 28, 29] H.size) (fun v H1 => (∃ r : Int32, v = some (.int r) ∧ (((-20 ≤ x0.toInt ∧ x0.toInt ≤ 50 ∧ 0 ≤ x1.toInt ∧ x1.toInt ≤ 99) ∧ r.toInt = 0) ∨ (¬ (-20 ≤ x0.toInt ∧ x0.toInt ≤ 50 ∧ 0 ≤ x1.toInt ∧ x1.toInt ≤ 99) ∧ r.toInt = -1))) ∧ ∃ G1 : Nat → Option Nat, (∀ q t, G q = some t → G1 q = some t) ∧ TY K G1 H1) := by
  refine MX.of (by decide +kernel) (Nat.le_of_ble_eq_true rfl) ?_
  intro p e s m below meth c ls Q C hH hl hQ
  subst hH
  have C : CX p K s m _ meth c RX9 cX9_night 3 (some .int) "night" := C
  obtain ⟨hx, hb, hml, hown, hts, hKT, hr, hlocks, hnm⟩ := id C
  have hl : lv_has ls 3 [(0, .ref a), (1, .int x0), (2, .int x1)] := hl
  have hS : va_S (AE G [0, 28, 29] s.heap.size) s.heap s.heap [] := va_S.rf
  have n_m1 : ((-1) : Int32).toInt = -1 := rfl
  have n_0 : (0 : Int32).toInt = 0 := rfl
  have n_1 : (1 : Int32).toInt = 1 := rfl
  have n_20 : (20 : Int32).toInt = 20 := rfl
  obtain ⟨f0, f1, f2, f3, f4, f5, f6, f7, f8, f9, f10⟩ := fx
  refine lv_iload_n hx hb dX9_night_0 rfl (lv_at hl 1 rfl) ?_
  refine lv_iload_n hx hb dX9_night_1 rfl (lv_at hl 2 rfl) ?_
  refine x_S (As := [.int x0, .int x1]) (rest := []) C (c_X9_isAir l K G s.heap (x0) (x1) hT) yo_X9_isAir wM_X9_275 ⟨⟨by decide, by decide⟩, by decide, by decide⟩ rfl hl.1 rfl (Nat.le_of_ble_eq_true rfl) dX9_night_2 hS (AE_sub (fun _ _ => rfl) (by decide) hS.1) (fun vH1 H1 locsH1 pH1 zH1 kH1 hSH1 => ?_)
  have hqH1 := pH1.1.symm
  subst hqH1
  rcases pH1.2 with ⟨hvH1, hcH1⟩ | ⟨hvH1, hcH1⟩
  · subst hvH1
    refine W.eq (g2 := F0 m 5 ls [.int 1]) rfl ?_
    refine lv_if_eq (tgt := 20) hx hb dX9_night_5 (by decide) (fun c2 => ?_) (fun c2 => ?_)
    · have k3 := i_eq c2
      exfalso
      omega
    · have k3 := i_ne c2
      refine lv_aload_n hx hb dX9_night_8 rfl (lv_at hl 0 rfl) ?_
      refine x_gr C hT (ci := 9) (k := 0) rfl inX9 (by decide) wF_X9_12 ga rg_68 rfl dX9_night_9 (fun q4 eq4 gq4 => ?_)
      have uq4 : w = q4 := (f0).trans eq4.symm
      subst uq4
      refine x_gi C hT (ci := 8) (k := 10) rfl inX8 (by decide) wF_X9_293 gw rg_0 rfl dX9_night_12 (fun x5 ex5 bx5 => ?_)
      have ux5 : x5 = 0 := ex5.trans f8
      subst ux5
      refine lv_bipush (v := 20) hx hb dX9_night_15 (by decide) ?_
      refine lv_icmp_lt (tgt := 22) hx hb dX9_night_17 (by decide) (fun c6 => ?_) (fun c6 => ?_)
      · have k7 := i_lt c6
        refine lv_aload_n hx hb dX9_night_22 rfl (lv_at hl 0 rfl) ?_
        refine x_gr C hT (ci := 9) (k := 0) rfl inX9 (by decide) wF_X9_12 ga rg_68 rfl dX9_night_23 (fun q8 eq8 gq8 => ?_)
        have uq8 : w = q8 := (f0).trans eq8.symm
        subst uq8
        refine x_gr C hT (ci := 8) (k := 8) rfl inX8 (by decide) wF_X9_296 gw rg_0 rfl dX9_night_26 (fun q9 eq9 gq9 => ?_)
        refine lv_aload_n hx hb dX9_night_29 rfl (lv_at hl 0 rfl) ?_
        refine x_gr C hT (ci := 9) (k := 0) rfl inX9 (by decide) wF_X9_12 ga rg_68 rfl dX9_night_30 (fun q10 eq10 gq10 => ?_)
        have uq10 : w = q10 := (f0).trans eq10.symm
        subst uq10
        refine x_gi C hT (ci := 8) (k := 10) rfl inX8 (by decide) wF_X9_293 gw rg_0 rfl dX9_night_33 (fun x11 ex11 bx11 => ?_)
        have ux11 : x11 = 0 := ex11.trans f8
        subst ux11
        refine lv_iload_n hx hb dX9_night_36 rfl (lv_at hl 1 rfl) ?_
        refine x_iast C hT hSH1 gq9 rg_28 (by omega) (by show _ < ((20 : Nat) : Int); omega) ⟨by have := i_rng x0; omega, by have := i_rng x0; omega⟩ (AE_in gq9 (by decide)) dX9_night_37 (fun H12 locsH12 hTH12 hSH12 wH12 => ?_)
        have m13 := f0.trans (Wr.neR wH12 (Or.inl (G_ne ga gq9 (by decide)))).symm
        have m14 := (Wr.neV wH12 (Or.inl (G_ne ga gq9 (by decide)))).trans f1
        have m15 := (Wr.neI wH12 (Or.inl (G_ne ga gq9 (by decide)))).trans f2
        have m16 := (Wr.neI wH12 (Or.inl (G_ne gw gq9 (by decide)))).trans f3
        have m17 := (Wr.neI wH12 (Or.inl (G_ne gw gq9 (by decide)))).trans f4
        have m18 := (Wr.neI wH12 (Or.inl (G_ne gw gq9 (by decide)))).trans f5
        have m19 := (Wr.neI wH12 (Or.inl (G_ne gw gq9 (by decide)))).trans f6
        have m20 := (Wr.neI wH12 (Or.inl (G_ne gw gq9 (by decide)))).trans f7
        have m21 := (Wr.neI wH12 (Or.inl (G_ne gw gq9 (by decide)))).trans f8
        have m22 := (Wr.neI wH12 (Or.inl (G_ne gw gq9 (by decide)))).trans f9
        have m23 := (Wr.neI wH12 (Or.inl (G_ne gw gq9 (by decide)))).trans f10
        have m24 := eq9.trans (Wr.neR wH12 (Or.inl (G_ne gw gq9 (by decide)))).symm
        have m25 := Wr.I wH12
        have m25 := m25.symm
        refine lv_aload_n hx hb dX9_night_38 rfl (lv_at hl 0 rfl) ?_
        refine x_gr C hTH12 (ci := 9) (k := 0) rfl inX9 (by decide) wF_X9_12 ga rg_68 rfl dX9_night_39 (fun q26 eq26 gq26 => ?_)
        have uq26 : w = q26 := (m13).trans eq26.symm
        subst uq26
        refine x_gr C hTH12 (ci := 8) (k := 9) rfl inX8 (by decide) wF_X9_299 gw rg_0 rfl dX9_night_42 (fun q27 eq27 gq27 => ?_)
        refine lv_aload_n hx hb dX9_night_45 rfl (lv_at hl 0 rfl) ?_
        refine x_gr C hTH12 (ci := 9) (k := 0) rfl inX9 (by decide) wF_X9_12 ga rg_68 rfl dX9_night_46 (fun q28 eq28 gq28 => ?_)
        have uq28 : w = q28 := (m13).trans eq28.symm
        subst uq28
        refine x_gi C hTH12 (ci := 8) (k := 10) rfl inX8 (by decide) wF_X9_293 gw rg_0 rfl dX9_night_49 (fun x29 ex29 bx29 => ?_)
        have ux29 : x29 = 0 := ex29.trans m21
        subst ux29
        refine lv_iload_n hx hb dX9_night_52 rfl (lv_at hl 2 rfl) ?_
        refine x_iast C hTH12 hSH12 gq27 rg_29 (by omega) (by show _ < ((20 : Nat) : Int); omega) ⟨by have := i_rng x1; omega, by have := i_rng x1; omega⟩ (AE_in gq27 (by decide)) dX9_night_53 (fun H30 locsH30 hTH30 hSH30 wH30 => ?_)
        have m31 := m13.trans (Wr.neR wH30 (Or.inl (G_ne ga gq27 (by decide)))).symm
        have m32 := (Wr.neV wH30 (Or.inl (G_ne ga gq27 (by decide)))).trans m14
        have m33 := (Wr.neI wH30 (Or.inl (G_ne ga gq27 (by decide)))).trans m15
        have m34 := (Wr.neI wH30 (Or.inl (G_ne gw gq27 (by decide)))).trans m16
        have m35 := (Wr.neI wH30 (Or.inl (G_ne gw gq27 (by decide)))).trans m17
        have m36 := (Wr.neI wH30 (Or.inl (G_ne gw gq27 (by decide)))).trans m18
        have m37 := (Wr.neI wH30 (Or.inl (G_ne gw gq27 (by decide)))).trans m19
        have m38 := (Wr.neI wH30 (Or.inl (G_ne gw gq27 (by decide)))).trans m20
        have m39 := (Wr.neI wH30 (Or.inl (G_ne gw gq27 (by decide)))).trans m21
        have m40 := (Wr.neI wH30 (Or.inl (G_ne gw gq27 (by decide)))).trans m22
        have m41 := (Wr.neI wH30 (Or.inl (G_ne gw gq27 (by decide)))).trans m23
        have m42 := m24.trans (Wr.neR wH30 (Or.inl (G_ne gw gq27 (by decide)))).symm
        have m43 := m25.trans (Wr.neI wH30 (Or.inl (G_ne gq9 gq27 (by decide)))).symm
        have m44 := eq27.trans (Wr.neR wH30 (Or.inl (G_ne gw gq27 (by decide)))).symm
        have m45 := Wr.I wH30
        have m45 := m45.symm
        refine lv_aload_n hx hb dX9_night_54 rfl (lv_at hl 0 rfl) ?_
        refine x_gr C hTH30 (ci := 9) (k := 0) rfl inX9 (by decide) wF_X9_12 ga rg_68 rfl dX9_night_55 (fun q46 eq46 gq46 => ?_)
        have uq46 : w = q46 := (m31).trans eq46.symm
        subst uq46
        refine lv_dup hx hb dX9_night_58 rfl ?_
        refine x_gi C hTH30 (ci := 8) (k := 10) rfl inX8 (by decide) wF_X9_293 gw rg_0 rfl dX9_night_59 (fun x47 ex47 bx47 => ?_)
        have ux47 : x47 = 0 := ex47.trans m39
        subst ux47
        refine lv_iconst (v := 1) hx hb dX9_night_62 (by decide) ?_
        refine lv_iadd hx hb dX9_night_63 ?_
        refine lv_topi (fun x48 ex48 => ?_)
        have tx48 : x48 = 1 := by rw [ex48]; rfl
        rw [tx48] at ex48 ⊢
        clear tx48 ex48
        refine x_put C hTH30 hSH30 (ci := 8) (k := 10) (v := .int 1) (ty0 := tyX8) rfl inX8 tyX8_ok nmX8 (by decide) rfl wF_X9_293 gw rg_0 rfl rfl (okI (by have := i_rng (1 : Int32); omega) (by have := i_rng (1 : Int32); omega)) rfl rfl (AE_in gw (by decide)) dX9_night_64 (fun H49 locsH49 hTH49 hSH49 wH49 => ?_)
        have m50 := m31.trans (Wr.neR wH49 (Or.inl (G_ne ga gw (by decide)))).symm
        have m51 := (Wr.neV wH49 (Or.inl (G_ne ga gw (by decide)))).trans m32
        have m52 := (Wr.neI wH49 (Or.inl (G_ne ga gw (by decide)))).trans m33
        have m53 := (Wr.neI wH49 (Or.inr (x_apart hKT hts inX8 tyX8 tyX8_ok nmX8 rfl 1 10 (by decide) (by decide) (by decide)))).trans m34
        have m54 := (Wr.neI wH49 (Or.inr (x_apart hKT hts inX8 tyX8 tyX8_ok nmX8 rfl 4 10 (by decide) (by decide) (by decide)))).trans m35
        have m55 := (Wr.neI wH49 (Or.inr (x_apart hKT hts inX8 tyX8 tyX8_ok nmX8 rfl 5 10 (by decide) (by decide) (by decide)))).trans m36
        have m56 := (Wr.neI wH49 (Or.inr (x_apart hKT hts inX8 tyX8 tyX8_ok nmX8 rfl 6 10 (by decide) (by decide) (by decide)))).trans m37
        have m57 := (Wr.neI wH49 (Or.inr (x_apart hKT hts inX8 tyX8 tyX8_ok nmX8 rfl 7 10 (by decide) (by decide) (by decide)))).trans m38
        have m59 := (Wr.neI wH49 (Or.inr (x_apart hKT hts inX8 tyX8 tyX8_ok nmX8 rfl 13 10 (by decide) (by decide) (by decide)))).trans m40
        have m60 := (Wr.neI wH49 (Or.inr (x_apart hKT hts inX8 tyX8 tyX8_ok nmX8 rfl 16 10 (by decide) (by decide) (by decide)))).trans m41
        have m61 := m42.trans (Wr.neR wH49 (Or.inr (x_apart hKT hts inX8 tyX8 tyX8_ok nmX8 rfl 8 10 (by decide) (by decide) (by decide)))).symm
        have m62 := m43.trans (Wr.neI wH49 (Or.inl (G_ne gq9 gw (by decide)))).symm
        have m63 := m44.trans (Wr.neR wH49 (Or.inr (x_apart hKT hts inX8 tyX8 tyX8_ok nmX8 rfl 9 10 (by decide) (by decide) (by decide)))).symm
        have m64 := m45.trans (Wr.neI wH49 (Or.inl (G_ne gq27 gw (by decide)))).symm
        have m65 := Wr.I wH49
        refine lv_aload_n hx hb dX9_night_67 rfl (lv_at hl 0 rfl) ?_
        refine x_gr C hTH49 (ci := 9) (k := 0) rfl inX9 (by decide) wF_X9_12 ga rg_68 rfl dX9_night_68 (fun q66 eq66 gq66 => ?_)
        have uq66 : w = q66 := (m50).trans eq66.symm
        subst uq66
        refine x_gi C hTH49 (ci := 8) (k := 10) rfl inX8 (by decide) wF_X9_293 gw rg_0 rfl dX9_night_71 (fun x67 ex67 bx67 => ?_)
        have ux67 : x67 = 1 := ex67.trans m65
        subst ux67
        refine lv_iconst (v := 1) hx hb dX9_night_74 (by decide) ?_
        refine lv_isub hx hb dX9_night_75 ?_
        refine lv_topi (fun x68 ex68 => ?_)
        have tx68 : x68 = 0 := by rw [ex68]; rfl
        rw [tx68] at ex68 ⊢
        clear tx68 ex68
        exact x_iret C hQ dX9_night_76 hSH49 (by decide) (by decide) (⟨⟨0, rfl, by omega⟩, G, fun _ _ h => h, hTH49⟩)
      · have k7 := i_nlt c6
        exfalso
        omega
  · subst hvH1
    refine W.eq (g2 := F0 m 5 ls [.int 0]) rfl ?_
    refine lv_if_eq (tgt := 20) hx hb dX9_night_5 (by decide) (fun c69 => ?_) (fun c69 => ?_)
    · have k70 := i_eq c69
      refine lv_iconst (v := (-1)) hx hb dX9_night_20 (by decide) ?_
      exact x_iret C hQ dX9_night_21 hSH1 (by decide) (by decide) (⟨⟨(-1), rfl, by omega⟩, G, fun _ _ h => h, hT⟩)
    · have k70 := i_ne c69
      exfalso
      omega

set_option maxHeartbeats 4000000 in
set_option maxRecDepth 100000 in
theorem f_X9_note (l : Launch) (K : KE) (G : Nat → Option Nat) (H : Heap) {a w : Nat} (x0 : Int32) (x1 : Int32) (hT : TY K G H) (ga : G a = some 68) (gw : G w = some 0) (fx : FX K H a w) : MX l K yX9_note cX9_note 3 (some .int) 1 22 0 0 [.ref a, .int x0, .int x1] H (AE G [0, 30, 31] H.size) (fun v H1 => (∃ r : Int32, v = some (.int r) ∧ (((1 ≤ x0.toInt ∧ x0.toInt ≤ 999999 ∧ 1 ≤ x1.toInt ∧ x1.toInt ≤ 99) ∧ r.toInt = 0) ∨ (¬ (1 ≤ x0.toInt ∧ x0.toInt ≤ 999999 ∧ 1 ≤ x1.toInt ∧ x1.toInt ≤ 99) ∧ r.toInt = -1))) ∧ ∃ G1 : Nat → Option Nat, (∀ q t, G q = some t → G1 q = some t) ∧ TY K G1 H1) := by
  refine MX.of (by decide +kernel) (Nat.le_of_ble_eq_true rfl) ?_
  intro p e s m below meth c ls Q C hH hl hQ
  subst hH
  have C : CX p K s m _ meth c RX9 cX9_note 3 (some .int) "note" := C
  obtain ⟨hx, hb, hml, hown, hts, hKT, hr, hlocks, hnm⟩ := id C
  have hl : lv_has ls 3 [(0, .ref a), (1, .int x0), (2, .int x1)] := hl
  have hS : va_S (AE G [0, 30, 31] s.heap.size) s.heap s.heap [] := va_S.rf
  have n_m1 : ((-1) : Int32).toInt = -1 := rfl
  have n_0 : (0 : Int32).toInt = 0 := rfl
  have n_1 : (1 : Int32).toInt = 1 := rfl
  have n_8 : (8 : Int32).toInt = 8 := rfl
  have n_99 : (99 : Int32).toInt = 99 := rfl
  have n_999999 : (999999 : Int32).toInt = 999999 := rfl
  obtain ⟨f0, f1, f2, f3, f4, f5, f6, f7, f8, f9, f10⟩ := fx
  refine lv_iload_n hx hb dX9_note_0 rfl (lv_at hl 1 rfl) ?_
  refine lv_iconst (v := 1) hx hb dX9_note_1 (by decide) ?_
  refine lv_ldc (v := 999999) hx hb hown (hts _ wK_X9_180) dX9_note_2 ?_
  refine x_S (As := [.int x0, .int 1, .int 999999]) (rest := []) C (c_X9_within l K G s.heap (x0) (1) (999999) hT) yo_X9_within wM_X9_89 ⟨⟨by decide, by decide⟩, by decide, by decide⟩ rfl hl.1 rfl (Nat.le_of_ble_eq_true rfl) dX9_note_4 hS (AE_sub (fun _ _ => rfl) (by decide) hS.1) (fun vH1 H1 locsH1 pH1 zH1 kH1 hSH1 => ?_)
  have hqH1 := pH1.1.symm
  subst hqH1
  rcases pH1.2 with ⟨hvH1, hcH1⟩ | ⟨hvH1, hcH1⟩
  · subst hvH1
    refine W.eq (g2 := F0 m 7 ls [.int 1]) rfl ?_
    refine lv_if_eq (tgt := 32) hx hb dX9_note_7 (by decide) (fun c2 => ?_) (fun c2 => ?_)
    · have k3 := i_eq c2
      exfalso
      omega
    · have k3 := i_ne c2
      refine lv_iload_n hx hb dX9_note_10 rfl (lv_at hl 2 rfl) ?_
      refine lv_iconst (v := 1) hx hb dX9_note_11 (by decide) ?_
      refine lv_bipush (v := 99) hx hb dX9_note_12 (by decide) ?_
      refine x_S (As := [.int x1, .int 1, .int 99]) (rest := []) C (c_X9_within l K G s.heap (x1) (1) (99) hT) yo_X9_within wM_X9_89 ⟨⟨by decide, by decide⟩, by decide, by decide⟩ rfl hl.1 rfl (Nat.le_of_ble_eq_true rfl) dX9_note_14 hSH1 (AE_sub (fun _ _ => rfl) (by decide) hSH1.1) (fun vH4 H4 locsH4 pH4 zH4 kH4 hSH4 => ?_)
      have hqH4 := pH4.1.symm
      subst hqH4
      rcases pH4.2 with ⟨hvH4, hcH4⟩ | ⟨hvH4, hcH4⟩
      · subst hvH4
        refine W.eq (g2 := F0 m 17 ls [.int 1]) rfl ?_
        refine lv_if_eq (tgt := 32) hx hb dX9_note_17 (by decide) (fun c5 => ?_) (fun c5 => ?_)
        · have k6 := i_eq c5
          exfalso
          omega
        · have k6 := i_ne c5
          refine lv_aload_n hx hb dX9_note_20 rfl (lv_at hl 0 rfl) ?_
          refine x_gr C hT (ci := 9) (k := 0) rfl inX9 (by decide) wF_X9_12 ga rg_68 rfl dX9_note_21 (fun q7 eq7 gq7 => ?_)
          have uq7 : w = q7 := (f0).trans eq7.symm
          subst uq7
          refine x_gi C hT (ci := 8) (k := 13) rfl inX8 (by decide) wF_X9_317 gw rg_0 rfl dX9_note_24 (fun x8 ex8 bx8 => ?_)
          have ux8 : x8 = 0 := ex8.trans f9
          subst ux8
          refine lv_bipush (v := 8) hx hb dX9_note_27 (by decide) ?_
          refine lv_icmp_lt (tgt := 34) hx hb dX9_note_29 (by decide) (fun c9 => ?_) (fun c9 => ?_)
          · have k10 := i_lt c9
            refine lv_aload_n hx hb dX9_note_34 rfl (lv_at hl 0 rfl) ?_
            refine x_gr C hT (ci := 9) (k := 0) rfl inX9 (by decide) wF_X9_12 ga rg_68 rfl dX9_note_35 (fun q11 eq11 gq11 => ?_)
            have uq11 : w = q11 := (f0).trans eq11.symm
            subst uq11
            refine x_gr C hT (ci := 8) (k := 11) rfl inX8 (by decide) wF_X9_320 gw rg_0 rfl dX9_note_38 (fun q12 eq12 gq12 => ?_)
            refine lv_aload_n hx hb dX9_note_41 rfl (lv_at hl 0 rfl) ?_
            refine x_gr C hT (ci := 9) (k := 0) rfl inX9 (by decide) wF_X9_12 ga rg_68 rfl dX9_note_42 (fun q13 eq13 gq13 => ?_)
            have uq13 : w = q13 := (f0).trans eq13.symm
            subst uq13
            refine x_gi C hT (ci := 8) (k := 13) rfl inX8 (by decide) wF_X9_317 gw rg_0 rfl dX9_note_45 (fun x14 ex14 bx14 => ?_)
            have ux14 : x14 = 0 := ex14.trans f9
            subst ux14
            refine lv_iload_n hx hb dX9_note_48 rfl (lv_at hl 1 rfl) ?_
            refine x_iast C hT hSH4 gq12 rg_30 (by omega) (by show _ < ((8 : Nat) : Int); omega) ⟨by have := i_rng x0; omega, by have := i_rng x0; omega⟩ (AE_in gq12 (by decide)) dX9_note_49 (fun H15 locsH15 hTH15 hSH15 wH15 => ?_)
            have m16 := f0.trans (Wr.neR wH15 (Or.inl (G_ne ga gq12 (by decide)))).symm
            have m17 := (Wr.neV wH15 (Or.inl (G_ne ga gq12 (by decide)))).trans f1
            have m18 := (Wr.neI wH15 (Or.inl (G_ne ga gq12 (by decide)))).trans f2
            have m19 := (Wr.neI wH15 (Or.inl (G_ne gw gq12 (by decide)))).trans f3
            have m20 := (Wr.neI wH15 (Or.inl (G_ne gw gq12 (by decide)))).trans f4
            have m21 := (Wr.neI wH15 (Or.inl (G_ne gw gq12 (by decide)))).trans f5
            have m22 := (Wr.neI wH15 (Or.inl (G_ne gw gq12 (by decide)))).trans f6
            have m23 := (Wr.neI wH15 (Or.inl (G_ne gw gq12 (by decide)))).trans f7
            have m24 := (Wr.neI wH15 (Or.inl (G_ne gw gq12 (by decide)))).trans f8
            have m25 := (Wr.neI wH15 (Or.inl (G_ne gw gq12 (by decide)))).trans f9
            have m26 := (Wr.neI wH15 (Or.inl (G_ne gw gq12 (by decide)))).trans f10
            have m27 := eq12.trans (Wr.neR wH15 (Or.inl (G_ne gw gq12 (by decide)))).symm
            have m28 := Wr.I wH15
            have m28 := m28.symm
            refine lv_aload_n hx hb dX9_note_50 rfl (lv_at hl 0 rfl) ?_
            refine x_gr C hTH15 (ci := 9) (k := 0) rfl inX9 (by decide) wF_X9_12 ga rg_68 rfl dX9_note_51 (fun q29 eq29 gq29 => ?_)
            have uq29 : w = q29 := (m16).trans eq29.symm
            subst uq29
            refine x_gr C hTH15 (ci := 8) (k := 12) rfl inX8 (by decide) wF_X9_323 gw rg_0 rfl dX9_note_54 (fun q30 eq30 gq30 => ?_)
            refine lv_aload_n hx hb dX9_note_57 rfl (lv_at hl 0 rfl) ?_
            refine x_gr C hTH15 (ci := 9) (k := 0) rfl inX9 (by decide) wF_X9_12 ga rg_68 rfl dX9_note_58 (fun q31 eq31 gq31 => ?_)
            have uq31 : w = q31 := (m16).trans eq31.symm
            subst uq31
            refine x_gi C hTH15 (ci := 8) (k := 13) rfl inX8 (by decide) wF_X9_317 gw rg_0 rfl dX9_note_61 (fun x32 ex32 bx32 => ?_)
            have ux32 : x32 = 0 := ex32.trans m25
            subst ux32
            refine lv_iload_n hx hb dX9_note_64 rfl (lv_at hl 2 rfl) ?_
            refine x_iast C hTH15 hSH15 gq30 rg_31 (by omega) (by show _ < ((8 : Nat) : Int); omega) ⟨by have := i_rng x1; omega, by have := i_rng x1; omega⟩ (AE_in gq30 (by decide)) dX9_note_65 (fun H33 locsH33 hTH33 hSH33 wH33 => ?_)
            have m34 := m16.trans (Wr.neR wH33 (Or.inl (G_ne ga gq30 (by decide)))).symm
            have m35 := (Wr.neV wH33 (Or.inl (G_ne ga gq30 (by decide)))).trans m17
            have m36 := (Wr.neI wH33 (Or.inl (G_ne ga gq30 (by decide)))).trans m18
            have m37 := (Wr.neI wH33 (Or.inl (G_ne gw gq30 (by decide)))).trans m19
            have m38 := (Wr.neI wH33 (Or.inl (G_ne gw gq30 (by decide)))).trans m20
            have m39 := (Wr.neI wH33 (Or.inl (G_ne gw gq30 (by decide)))).trans m21
            have m40 := (Wr.neI wH33 (Or.inl (G_ne gw gq30 (by decide)))).trans m22
            have m41 := (Wr.neI wH33 (Or.inl (G_ne gw gq30 (by decide)))).trans m23
            have m42 := (Wr.neI wH33 (Or.inl (G_ne gw gq30 (by decide)))).trans m24
            have m43 := (Wr.neI wH33 (Or.inl (G_ne gw gq30 (by decide)))).trans m25
            have m44 := (Wr.neI wH33 (Or.inl (G_ne gw gq30 (by decide)))).trans m26
            have m45 := m27.trans (Wr.neR wH33 (Or.inl (G_ne gw gq30 (by decide)))).symm
            have m46 := m28.trans (Wr.neI wH33 (Or.inl (G_ne gq12 gq30 (by decide)))).symm
            have m47 := eq30.trans (Wr.neR wH33 (Or.inl (G_ne gw gq30 (by decide)))).symm
            have m48 := Wr.I wH33
            have m48 := m48.symm
            refine lv_aload_n hx hb dX9_note_66 rfl (lv_at hl 0 rfl) ?_
            refine x_gr C hTH33 (ci := 9) (k := 0) rfl inX9 (by decide) wF_X9_12 ga rg_68 rfl dX9_note_67 (fun q49 eq49 gq49 => ?_)
            have uq49 : w = q49 := (m34).trans eq49.symm
            subst uq49
            refine lv_dup hx hb dX9_note_70 rfl ?_
            refine x_gi C hTH33 (ci := 8) (k := 13) rfl inX8 (by decide) wF_X9_317 gw rg_0 rfl dX9_note_71 (fun x50 ex50 bx50 => ?_)
            have ux50 : x50 = 0 := ex50.trans m43
            subst ux50
            refine lv_iconst (v := 1) hx hb dX9_note_74 (by decide) ?_
            refine lv_iadd hx hb dX9_note_75 ?_
            refine lv_topi (fun x51 ex51 => ?_)
            have tx51 : x51 = 1 := by rw [ex51]; rfl
            rw [tx51] at ex51 ⊢
            clear tx51 ex51
            refine x_put C hTH33 hSH33 (ci := 8) (k := 13) (v := .int 1) (ty0 := tyX8) rfl inX8 tyX8_ok nmX8 (by decide) rfl wF_X9_317 gw rg_0 rfl rfl (okI (by have := i_rng (1 : Int32); omega) (by have := i_rng (1 : Int32); omega)) rfl rfl (AE_in gw (by decide)) dX9_note_76 (fun H52 locsH52 hTH52 hSH52 wH52 => ?_)
            have m53 := m34.trans (Wr.neR wH52 (Or.inl (G_ne ga gw (by decide)))).symm
            have m54 := (Wr.neV wH52 (Or.inl (G_ne ga gw (by decide)))).trans m35
            have m55 := (Wr.neI wH52 (Or.inl (G_ne ga gw (by decide)))).trans m36
            have m56 := (Wr.neI wH52 (Or.inr (x_apart hKT hts inX8 tyX8 tyX8_ok nmX8 rfl 1 13 (by decide) (by decide) (by decide)))).trans m37
            have m57 := (Wr.neI wH52 (Or.inr (x_apart hKT hts inX8 tyX8 tyX8_ok nmX8 rfl 4 13 (by decide) (by decide) (by decide)))).trans m38
            have m58 := (Wr.neI wH52 (Or.inr (x_apart hKT hts inX8 tyX8 tyX8_ok nmX8 rfl 5 13 (by decide) (by decide) (by decide)))).trans m39
            have m59 := (Wr.neI wH52 (Or.inr (x_apart hKT hts inX8 tyX8 tyX8_ok nmX8 rfl 6 13 (by decide) (by decide) (by decide)))).trans m40
            have m60 := (Wr.neI wH52 (Or.inr (x_apart hKT hts inX8 tyX8 tyX8_ok nmX8 rfl 7 13 (by decide) (by decide) (by decide)))).trans m41
            have m61 := (Wr.neI wH52 (Or.inr (x_apart hKT hts inX8 tyX8 tyX8_ok nmX8 rfl 10 13 (by decide) (by decide) (by decide)))).trans m42
            have m63 := (Wr.neI wH52 (Or.inr (x_apart hKT hts inX8 tyX8 tyX8_ok nmX8 rfl 16 13 (by decide) (by decide) (by decide)))).trans m44
            have m64 := m45.trans (Wr.neR wH52 (Or.inr (x_apart hKT hts inX8 tyX8 tyX8_ok nmX8 rfl 11 13 (by decide) (by decide) (by decide)))).symm
            have m65 := m46.trans (Wr.neI wH52 (Or.inl (G_ne gq12 gw (by decide)))).symm
            have m66 := m47.trans (Wr.neR wH52 (Or.inr (x_apart hKT hts inX8 tyX8 tyX8_ok nmX8 rfl 12 13 (by decide) (by decide) (by decide)))).symm
            have m67 := m48.trans (Wr.neI wH52 (Or.inl (G_ne gq30 gw (by decide)))).symm
            have m68 := Wr.I wH52
            refine lv_aload_n hx hb dX9_note_79 rfl (lv_at hl 0 rfl) ?_
            refine x_gr C hTH52 (ci := 9) (k := 0) rfl inX9 (by decide) wF_X9_12 ga rg_68 rfl dX9_note_80 (fun q69 eq69 gq69 => ?_)
            have uq69 : w = q69 := (m53).trans eq69.symm
            subst uq69
            refine x_gi C hTH52 (ci := 8) (k := 13) rfl inX8 (by decide) wF_X9_317 gw rg_0 rfl dX9_note_83 (fun x70 ex70 bx70 => ?_)
            have ux70 : x70 = 1 := ex70.trans m68
            subst ux70
            refine lv_iconst (v := 1) hx hb dX9_note_86 (by decide) ?_
            refine lv_isub hx hb dX9_note_87 ?_
            refine lv_topi (fun x71 ex71 => ?_)
            have tx71 : x71 = 0 := by rw [ex71]; rfl
            rw [tx71] at ex71 ⊢
            clear tx71 ex71
            exact x_iret C hQ dX9_note_88 hSH52 (by decide) (by decide) (⟨⟨0, rfl, by omega⟩, G, fun _ _ h => h, hTH52⟩)
          · have k10 := i_nlt c9
            exfalso
            omega
      · subst hvH4
        refine W.eq (g2 := F0 m 17 ls [.int 0]) rfl ?_
        refine lv_if_eq (tgt := 32) hx hb dX9_note_17 (by decide) (fun c72 => ?_) (fun c72 => ?_)
        · have k73 := i_eq c72
          refine lv_iconst (v := (-1)) hx hb dX9_note_32 (by decide) ?_
          exact x_iret C hQ dX9_note_33 hSH4 (by decide) (by decide) (⟨⟨(-1), rfl, by omega⟩, G, fun _ _ h => h, hT⟩)
        · have k73 := i_ne c72
          exfalso
          omega
  · subst hvH1
    refine W.eq (g2 := F0 m 7 ls [.int 0]) rfl ?_
    refine lv_if_eq (tgt := 32) hx hb dX9_note_7 (by decide) (fun c74 => ?_) (fun c74 => ?_)
    · have k75 := i_eq c74
      refine lv_iconst (v := (-1)) hx hb dX9_note_32 (by decide) ?_
      exact x_iret C hQ dX9_note_33 hSH1 (by decide) (by decide) (⟨⟨(-1), rfl, by omega⟩, G, fun _ _ h => h, hT⟩)
    · have k75 := i_ne c74
      exfalso
      omega

set_option maxHeartbeats 4000000 in
set_option maxRecDepth 100000 in
theorem f_X9_blank (l : Launch) (K : KE) (G : Nat → Option Nat) (H : Heap) {a w : Nat} (x0 : Int32) (x1 : Int32) (hT : TY K G H) (ga : G a = some 68) (gw : G w = some 0) (fx : FX K H a w) : MX l K yX9_blank cX9_blank 3 (some .int) 1 22 0 0 [.ref a, .int x0, .int x1] H (AE G [0, 32, 33] H.size) (fun v H1 => (∃ r : Int32, v = some (.int r) ∧ (((1 ≤ x0.toInt ∧ x0.toInt ≤ 99 ∧ 0 ≤ x1.toInt ∧ x1.toInt ≤ 99) ∧ r.toInt = 0) ∨ (¬ (1 ≤ x0.toInt ∧ x0.toInt ≤ 99 ∧ 0 ≤ x1.toInt ∧ x1.toInt ≤ 99) ∧ r.toInt = -1))) ∧ ∃ G1 : Nat → Option Nat, (∀ q t, G q = some t → G1 q = some t) ∧ TY K G1 H1) := by
  refine MX.of (by decide +kernel) (Nat.le_of_ble_eq_true rfl) ?_
  intro p e s m below meth c ls Q C hH hl hQ
  subst hH
  have C : CX p K s m _ meth c RX9 cX9_blank 3 (some .int) "blank" := C
  obtain ⟨hx, hb, hml, hown, hts, hKT, hr, hlocks, hnm⟩ := id C
  have hl : lv_has ls 3 [(0, .ref a), (1, .int x0), (2, .int x1)] := hl
  have hS : va_S (AE G [0, 32, 33] s.heap.size) s.heap s.heap [] := va_S.rf
  have n_m1 : ((-1) : Int32).toInt = -1 := rfl
  have n_0 : (0 : Int32).toInt = 0 := rfl
  have n_1 : (1 : Int32).toInt = 1 := rfl
  have n_8 : (8 : Int32).toInt = 8 := rfl
  have n_99 : (99 : Int32).toInt = 99 := rfl
  obtain ⟨f0, f1, f2, f3, f4, f5, f6, f7, f8, f9, f10⟩ := fx
  refine lv_iload_n hx hb dX9_blank_0 rfl (lv_at hl 1 rfl) ?_
  refine lv_iconst (v := 1) hx hb dX9_blank_1 (by decide) ?_
  refine lv_bipush (v := 99) hx hb dX9_blank_2 (by decide) ?_
  refine x_S (As := [.int x0, .int 1, .int 99]) (rest := []) C (c_X9_within l K G s.heap (x0) (1) (99) hT) yo_X9_within wM_X9_89 ⟨⟨by decide, by decide⟩, by decide, by decide⟩ rfl hl.1 rfl (Nat.le_of_ble_eq_true rfl) dX9_blank_4 hS (AE_sub (fun _ _ => rfl) (by decide) hS.1) (fun vH1 H1 locsH1 pH1 zH1 kH1 hSH1 => ?_)
  have hqH1 := pH1.1.symm
  subst hqH1
  rcases pH1.2 with ⟨hvH1, hcH1⟩ | ⟨hvH1, hcH1⟩
  · subst hvH1
    refine W.eq (g2 := F0 m 7 ls [.int 1]) rfl ?_
    refine lv_if_eq (tgt := 32) hx hb dX9_blank_7 (by decide) (fun c2 => ?_) (fun c2 => ?_)
    · have k3 := i_eq c2
      exfalso
      omega
    · have k3 := i_ne c2
      refine lv_iload_n hx hb dX9_blank_10 rfl (lv_at hl 2 rfl) ?_
      refine lv_iconst (v := 0) hx hb dX9_blank_11 (by decide) ?_
      refine lv_bipush (v := 99) hx hb dX9_blank_12 (by decide) ?_
      refine x_S (As := [.int x1, .int 0, .int 99]) (rest := []) C (c_X9_within l K G s.heap (x1) (0) (99) hT) yo_X9_within wM_X9_89 ⟨⟨by decide, by decide⟩, by decide, by decide⟩ rfl hl.1 rfl (Nat.le_of_ble_eq_true rfl) dX9_blank_14 hSH1 (AE_sub (fun _ _ => rfl) (by decide) hSH1.1) (fun vH4 H4 locsH4 pH4 zH4 kH4 hSH4 => ?_)
      have hqH4 := pH4.1.symm
      subst hqH4
      rcases pH4.2 with ⟨hvH4, hcH4⟩ | ⟨hvH4, hcH4⟩
      · subst hvH4
        refine W.eq (g2 := F0 m 17 ls [.int 1]) rfl ?_
        refine lv_if_eq (tgt := 32) hx hb dX9_blank_17 (by decide) (fun c5 => ?_) (fun c5 => ?_)
        · have k6 := i_eq c5
          exfalso
          omega
        · have k6 := i_ne c5
          refine lv_aload_n hx hb dX9_blank_20 rfl (lv_at hl 0 rfl) ?_
          refine x_gr C hT (ci := 9) (k := 0) rfl inX9 (by decide) wF_X9_12 ga rg_68 rfl dX9_blank_21 (fun q7 eq7 gq7 => ?_)
          have uq7 : w = q7 := (f0).trans eq7.symm
          subst uq7
          refine x_gi C hT (ci := 8) (k := 16) rfl inX8 (by decide) wF_X9_326 gw rg_0 rfl dX9_blank_24 (fun x8 ex8 bx8 => ?_)
          have ux8 : x8 = 0 := ex8.trans f10
          subst ux8
          refine lv_bipush (v := 8) hx hb dX9_blank_27 (by decide) ?_
          refine lv_icmp_lt (tgt := 34) hx hb dX9_blank_29 (by decide) (fun c9 => ?_) (fun c9 => ?_)
          · have k10 := i_lt c9
            refine lv_aload_n hx hb dX9_blank_34 rfl (lv_at hl 0 rfl) ?_
            refine x_gr C hT (ci := 9) (k := 0) rfl inX9 (by decide) wF_X9_12 ga rg_68 rfl dX9_blank_35 (fun q11 eq11 gq11 => ?_)
            have uq11 : w = q11 := (f0).trans eq11.symm
            subst uq11
            refine x_gr C hT (ci := 8) (k := 14) rfl inX8 (by decide) wF_X9_329 gw rg_0 rfl dX9_blank_38 (fun q12 eq12 gq12 => ?_)
            refine lv_aload_n hx hb dX9_blank_41 rfl (lv_at hl 0 rfl) ?_
            refine x_gr C hT (ci := 9) (k := 0) rfl inX9 (by decide) wF_X9_12 ga rg_68 rfl dX9_blank_42 (fun q13 eq13 gq13 => ?_)
            have uq13 : w = q13 := (f0).trans eq13.symm
            subst uq13
            refine x_gi C hT (ci := 8) (k := 16) rfl inX8 (by decide) wF_X9_326 gw rg_0 rfl dX9_blank_45 (fun x14 ex14 bx14 => ?_)
            have ux14 : x14 = 0 := ex14.trans f10
            subst ux14
            refine lv_iload_n hx hb dX9_blank_48 rfl (lv_at hl 1 rfl) ?_
            refine x_iast C hT hSH4 gq12 rg_32 (by omega) (by show _ < ((8 : Nat) : Int); omega) ⟨by have := i_rng x0; omega, by have := i_rng x0; omega⟩ (AE_in gq12 (by decide)) dX9_blank_49 (fun H15 locsH15 hTH15 hSH15 wH15 => ?_)
            have m16 := f0.trans (Wr.neR wH15 (Or.inl (G_ne ga gq12 (by decide)))).symm
            have m17 := (Wr.neV wH15 (Or.inl (G_ne ga gq12 (by decide)))).trans f1
            have m18 := (Wr.neI wH15 (Or.inl (G_ne ga gq12 (by decide)))).trans f2
            have m19 := (Wr.neI wH15 (Or.inl (G_ne gw gq12 (by decide)))).trans f3
            have m20 := (Wr.neI wH15 (Or.inl (G_ne gw gq12 (by decide)))).trans f4
            have m21 := (Wr.neI wH15 (Or.inl (G_ne gw gq12 (by decide)))).trans f5
            have m22 := (Wr.neI wH15 (Or.inl (G_ne gw gq12 (by decide)))).trans f6
            have m23 := (Wr.neI wH15 (Or.inl (G_ne gw gq12 (by decide)))).trans f7
            have m24 := (Wr.neI wH15 (Or.inl (G_ne gw gq12 (by decide)))).trans f8
            have m25 := (Wr.neI wH15 (Or.inl (G_ne gw gq12 (by decide)))).trans f9
            have m26 := (Wr.neI wH15 (Or.inl (G_ne gw gq12 (by decide)))).trans f10
            have m27 := eq12.trans (Wr.neR wH15 (Or.inl (G_ne gw gq12 (by decide)))).symm
            have m28 := Wr.I wH15
            have m28 := m28.symm
            refine lv_aload_n hx hb dX9_blank_50 rfl (lv_at hl 0 rfl) ?_
            refine x_gr C hTH15 (ci := 9) (k := 0) rfl inX9 (by decide) wF_X9_12 ga rg_68 rfl dX9_blank_51 (fun q29 eq29 gq29 => ?_)
            have uq29 : w = q29 := (m16).trans eq29.symm
            subst uq29
            refine x_gr C hTH15 (ci := 8) (k := 15) rfl inX8 (by decide) wF_X9_332 gw rg_0 rfl dX9_blank_54 (fun q30 eq30 gq30 => ?_)
            refine lv_aload_n hx hb dX9_blank_57 rfl (lv_at hl 0 rfl) ?_
            refine x_gr C hTH15 (ci := 9) (k := 0) rfl inX9 (by decide) wF_X9_12 ga rg_68 rfl dX9_blank_58 (fun q31 eq31 gq31 => ?_)
            have uq31 : w = q31 := (m16).trans eq31.symm
            subst uq31
            refine x_gi C hTH15 (ci := 8) (k := 16) rfl inX8 (by decide) wF_X9_326 gw rg_0 rfl dX9_blank_61 (fun x32 ex32 bx32 => ?_)
            have ux32 : x32 = 0 := ex32.trans m26
            subst ux32
            refine lv_iload_n hx hb dX9_blank_64 rfl (lv_at hl 2 rfl) ?_
            refine x_iast C hTH15 hSH15 gq30 rg_33 (by omega) (by show _ < ((8 : Nat) : Int); omega) ⟨by have := i_rng x1; omega, by have := i_rng x1; omega⟩ (AE_in gq30 (by decide)) dX9_blank_65 (fun H33 locsH33 hTH33 hSH33 wH33 => ?_)
            have m34 := m16.trans (Wr.neR wH33 (Or.inl (G_ne ga gq30 (by decide)))).symm
            have m35 := (Wr.neV wH33 (Or.inl (G_ne ga gq30 (by decide)))).trans m17
            have m36 := (Wr.neI wH33 (Or.inl (G_ne ga gq30 (by decide)))).trans m18
            have m37 := (Wr.neI wH33 (Or.inl (G_ne gw gq30 (by decide)))).trans m19
            have m38 := (Wr.neI wH33 (Or.inl (G_ne gw gq30 (by decide)))).trans m20
            have m39 := (Wr.neI wH33 (Or.inl (G_ne gw gq30 (by decide)))).trans m21
            have m40 := (Wr.neI wH33 (Or.inl (G_ne gw gq30 (by decide)))).trans m22
            have m41 := (Wr.neI wH33 (Or.inl (G_ne gw gq30 (by decide)))).trans m23
            have m42 := (Wr.neI wH33 (Or.inl (G_ne gw gq30 (by decide)))).trans m24
            have m43 := (Wr.neI wH33 (Or.inl (G_ne gw gq30 (by decide)))).trans m25
            have m44 := (Wr.neI wH33 (Or.inl (G_ne gw gq30 (by decide)))).trans m26
            have m45 := m27.trans (Wr.neR wH33 (Or.inl (G_ne gw gq30 (by decide)))).symm
            have m46 := m28.trans (Wr.neI wH33 (Or.inl (G_ne gq12 gq30 (by decide)))).symm
            have m47 := eq30.trans (Wr.neR wH33 (Or.inl (G_ne gw gq30 (by decide)))).symm
            have m48 := Wr.I wH33
            have m48 := m48.symm
            refine lv_aload_n hx hb dX9_blank_66 rfl (lv_at hl 0 rfl) ?_
            refine x_gr C hTH33 (ci := 9) (k := 0) rfl inX9 (by decide) wF_X9_12 ga rg_68 rfl dX9_blank_67 (fun q49 eq49 gq49 => ?_)
            have uq49 : w = q49 := (m34).trans eq49.symm
            subst uq49
            refine lv_dup hx hb dX9_blank_70 rfl ?_
            refine x_gi C hTH33 (ci := 8) (k := 16) rfl inX8 (by decide) wF_X9_326 gw rg_0 rfl dX9_blank_71 (fun x50 ex50 bx50 => ?_)
            have ux50 : x50 = 0 := ex50.trans m44
            subst ux50
            refine lv_iconst (v := 1) hx hb dX9_blank_74 (by decide) ?_
            refine lv_iadd hx hb dX9_blank_75 ?_
            refine lv_topi (fun x51 ex51 => ?_)
            have tx51 : x51 = 1 := by rw [ex51]; rfl
            rw [tx51] at ex51 ⊢
            clear tx51 ex51
            refine x_put C hTH33 hSH33 (ci := 8) (k := 16) (v := .int 1) (ty0 := tyX8) rfl inX8 tyX8_ok nmX8 (by decide) rfl wF_X9_326 gw rg_0 rfl rfl (okI (by have := i_rng (1 : Int32); omega) (by have := i_rng (1 : Int32); omega)) rfl rfl (AE_in gw (by decide)) dX9_blank_76 (fun H52 locsH52 hTH52 hSH52 wH52 => ?_)
            have m53 := m34.trans (Wr.neR wH52 (Or.inl (G_ne ga gw (by decide)))).symm
            have m54 := (Wr.neV wH52 (Or.inl (G_ne ga gw (by decide)))).trans m35
            have m55 := (Wr.neI wH52 (Or.inl (G_ne ga gw (by decide)))).trans m36
            have m56 := (Wr.neI wH52 (Or.inr (x_apart hKT hts inX8 tyX8 tyX8_ok nmX8 rfl 1 16 (by decide) (by decide) (by decide)))).trans m37
            have m57 := (Wr.neI wH52 (Or.inr (x_apart hKT hts inX8 tyX8 tyX8_ok nmX8 rfl 4 16 (by decide) (by decide) (by decide)))).trans m38
            have m58 := (Wr.neI wH52 (Or.inr (x_apart hKT hts inX8 tyX8 tyX8_ok nmX8 rfl 5 16 (by decide) (by decide) (by decide)))).trans m39
            have m59 := (Wr.neI wH52 (Or.inr (x_apart hKT hts inX8 tyX8 tyX8_ok nmX8 rfl 6 16 (by decide) (by decide) (by decide)))).trans m40
            have m60 := (Wr.neI wH52 (Or.inr (x_apart hKT hts inX8 tyX8 tyX8_ok nmX8 rfl 7 16 (by decide) (by decide) (by decide)))).trans m41
            have m61 := (Wr.neI wH52 (Or.inr (x_apart hKT hts inX8 tyX8 tyX8_ok nmX8 rfl 10 16 (by decide) (by decide) (by decide)))).trans m42
            have m62 := (Wr.neI wH52 (Or.inr (x_apart hKT hts inX8 tyX8 tyX8_ok nmX8 rfl 13 16 (by decide) (by decide) (by decide)))).trans m43
            have m64 := m45.trans (Wr.neR wH52 (Or.inr (x_apart hKT hts inX8 tyX8 tyX8_ok nmX8 rfl 14 16 (by decide) (by decide) (by decide)))).symm
            have m65 := m46.trans (Wr.neI wH52 (Or.inl (G_ne gq12 gw (by decide)))).symm
            have m66 := m47.trans (Wr.neR wH52 (Or.inr (x_apart hKT hts inX8 tyX8 tyX8_ok nmX8 rfl 15 16 (by decide) (by decide) (by decide)))).symm
            have m67 := m48.trans (Wr.neI wH52 (Or.inl (G_ne gq30 gw (by decide)))).symm
            have m68 := Wr.I wH52
            refine lv_aload_n hx hb dX9_blank_79 rfl (lv_at hl 0 rfl) ?_
            refine x_gr C hTH52 (ci := 9) (k := 0) rfl inX9 (by decide) wF_X9_12 ga rg_68 rfl dX9_blank_80 (fun q69 eq69 gq69 => ?_)
            have uq69 : w = q69 := (m53).trans eq69.symm
            subst uq69
            refine x_gi C hTH52 (ci := 8) (k := 16) rfl inX8 (by decide) wF_X9_326 gw rg_0 rfl dX9_blank_83 (fun x70 ex70 bx70 => ?_)
            have ux70 : x70 = 1 := ex70.trans m68
            subst ux70
            refine lv_iconst (v := 1) hx hb dX9_blank_86 (by decide) ?_
            refine lv_isub hx hb dX9_blank_87 ?_
            refine lv_topi (fun x71 ex71 => ?_)
            have tx71 : x71 = 0 := by rw [ex71]; rfl
            rw [tx71] at ex71 ⊢
            clear tx71 ex71
            exact x_iret C hQ dX9_blank_88 hSH52 (by decide) (by decide) (⟨⟨0, rfl, by omega⟩, G, fun _ _ h => h, hTH52⟩)
          · have k10 := i_nlt c9
            exfalso
            omega
      · subst hvH4
        refine W.eq (g2 := F0 m 17 ls [.int 0]) rfl ?_
        refine lv_if_eq (tgt := 32) hx hb dX9_blank_17 (by decide) (fun c72 => ?_) (fun c72 => ?_)
        · have k73 := i_eq c72
          refine lv_iconst (v := (-1)) hx hb dX9_blank_32 (by decide) ?_
          exact x_iret C hQ dX9_blank_33 hSH4 (by decide) (by decide) (⟨⟨(-1), rfl, by omega⟩, G, fun _ _ h => h, hT⟩)
        · have k73 := i_ne c72
          exfalso
          omega
  · subst hvH1
    refine W.eq (g2 := F0 m 7 ls [.int 0]) rfl ?_
    refine lv_if_eq (tgt := 32) hx hb dX9_blank_7 (by decide) (fun c74 => ?_) (fun c74 => ?_)
    · have k75 := i_eq c74
      refine lv_iconst (v := (-1)) hx hb dX9_blank_32 (by decide) ?_
      exact x_iret C hQ dX9_blank_33 hSH1 (by decide) (by decide) (⟨⟨(-1), rfl, by omega⟩, G, fun _ _ h => h, hT⟩)
    · have k75 := i_ne c74
      exfalso
      omega
end
