section
-- ===== PART A: goes FIRST, ahead of the names: the tables' words, and 'selects' of the private methods out of them =====
/-- a private method of a class that the tables say can be made, by its rows of tables_1 -/
def lw_okq (q : MethodName × Nat) : Prop := (q.1.cls ≠ "java/lang/invoke/MethodHandle" ∧ q.1.cls ≠ "java/lang/invoke/VarHandle") ∧ Cond.instantiable q.1.cls q.2 ∈ tables_1 ∧ Cond.privateMethod q.1 ∈ tables_1 ∧ Cond.instanceMethod q.1 ∈ tables_1
theorem lw_p0 : lw_okq (⟨"FoldWalks$History", "latest", "()I"⟩, 3) := ⟨⟨by decide +kernel, by decide +kernel⟩, List.mem_of_getElem? (i := 161) (by decide +kernel), List.mem_of_getElem? (i := 339) (by decide +kernel), List.mem_of_getElem? (i := 340) (by decide +kernel)⟩
theorem lw_p1 : lw_okq (⟨"FoldWalks", "startWalk", "(III)I"⟩, 5) := ⟨⟨by decide +kernel, by decide +kernel⟩, List.mem_of_getElem? (i := 17) (by decide +kernel), List.mem_of_getElem? (i := 445) (by decide +kernel), List.mem_of_getElem? (i := 446) (by decide +kernel)⟩
theorem lw_p2 : lw_okq (⟨"FoldWalks$Mover", "arrives", "(LFoldWalks$State;LFoldWalks$Walk;J)Z"⟩, 2) := ⟨⟨by decide +kernel, by decide +kernel⟩, List.mem_of_getElem? (i := 181) (by decide +kernel), List.mem_of_getElem? (i := 523) (by decide +kernel), List.mem_of_getElem? (i := 524) (by decide +kernel)⟩
theorem lw_p3 : lw_okq (⟨"FoldWalks$Mover", "land", "(LFoldWalks$Walk;I)V"⟩, 2) := ⟨⟨by decide +kernel, by decide +kernel⟩, List.mem_of_getElem? (i := 181) (by decide +kernel), List.mem_of_getElem? (i := 527) (by decide +kernel), List.mem_of_getElem? (i := 528) (by decide +kernel)⟩
theorem lw_p4 : lw_okq (⟨"FoldWalks$Walk", "squaresTo", "(IJJ)J"⟩, 10) := ⟨⟨by decide +kernel, by decide +kernel⟩, List.mem_of_getElem? (i := 66) (by decide +kernel), List.mem_of_getElem? (i := 626) (by decide +kernel), List.mem_of_getElem? (i := 627) (by decide +kernel)⟩
theorem lw_p5 : lw_okq (⟨"FoldWalks$Reader", "openTerm", "(I)V"⟩, 8) := ⟨⟨by decide +kernel, by decide +kernel⟩, List.mem_of_getElem? (i := 267) (by decide +kernel), List.mem_of_getElem? (i := 669) (by decide +kernel), List.mem_of_getElem? (i := 670) (by decide +kernel)⟩
theorem lw_p6 : lw_okq (⟨"FoldWalks$Reader", "take", "(I)I"⟩, 8) := ⟨⟨by decide +kernel, by decide +kernel⟩, List.mem_of_getElem? (i := 267) (by decide +kernel), List.mem_of_getElem? (i := 673) (by decide +kernel), List.mem_of_getElem? (i := 674) (by decide +kernel)⟩
theorem lw_p7 : lw_okq (⟨"FoldWalks$Reader", "takeSign", "(I)I"⟩, 8) := ⟨⟨by decide +kernel, by decide +kernel⟩, List.mem_of_getElem? (i := 267) (by decide +kernel), List.mem_of_getElem? (i := 677) (by decide +kernel), List.mem_of_getElem? (i := 678) (by decide +kernel)⟩
theorem lw_p8 : lw_okq (⟨"FoldWalks$Reader", "closeTerm", "()V"⟩, 8) := ⟨⟨by decide +kernel, by decide +kernel⟩, List.mem_of_getElem? (i := 267) (by decide +kernel), List.mem_of_getElem? (i := 681) (by decide +kernel), List.mem_of_getElem? (i := 682) (by decide +kernel)⟩
theorem lw_p9 : lw_okq (⟨"FoldWalks$Reader", "takeDigit", "(I)I"⟩, 8) := ⟨⟨by decide +kernel, by decide +kernel⟩, List.mem_of_getElem? (i := 267) (by decide +kernel), List.mem_of_getElem? (i := 687) (by decide +kernel), List.mem_of_getElem? (i := 688) (by decide +kernel)⟩
theorem lw_p10 : lw_okq (⟨"FoldWalks$Reader", "takeLetter", "(Z)I"⟩, 8) := ⟨⟨by decide +kernel, by decide +kernel⟩, List.mem_of_getElem? (i := 267) (by decide +kernel), List.mem_of_getElem? (i := 691) (by decide +kernel), List.mem_of_getElem? (i := 692) (by decide +kernel)⟩
theorem lw_p11 : lw_okq (⟨"FoldWalksModel", "begins", "()V"⟩, 12) := ⟨⟨by decide +kernel, by decide +kernel⟩, List.mem_of_getElem? (i := 700) (by decide +kernel), List.mem_of_getElem? (i := 747) (by decide +kernel), List.mem_of_getElem? (i := 748) (by decide +kernel)⟩
theorem lw_p12 : lw_okq (⟨"FoldWalksModel", "adds", "(III)I"⟩, 12) := ⟨⟨by decide +kernel, by decide +kernel⟩, List.mem_of_getElem? (i := 700) (by decide +kernel), List.mem_of_getElem? (i := 754) (by decide +kernel), List.mem_of_getElem? (i := 755) (by decide +kernel)⟩
theorem lw_p13 : lw_okq (⟨"FoldWalksModel", "acted", "(I)I"⟩, 12) := ⟨⟨by decide +kernel, by decide +kernel⟩, List.mem_of_getElem? (i := 700) (by decide +kernel), List.mem_of_getElem? (i := 760) (by decide +kernel), List.mem_of_getElem? (i := 761) (by decide +kernel)⟩
theorem lw_p14 : lw_okq (⟨"FoldWalksModel", "returns", "()V"⟩, 12) := ⟨⟨by decide +kernel, by decide +kernel⟩, List.mem_of_getElem? (i := 700) (by decide +kernel), List.mem_of_getElem? (i := 764) (by decide +kernel), List.mem_of_getElem? (i := 765) (by decide +kernel)⟩
theorem lw_p15 : lw_okq (⟨"FoldWalksModel", "removes", "(I)I"⟩, 12) := ⟨⟨by decide +kernel, by decide +kernel⟩, List.mem_of_getElem? (i := 700) (by decide +kernel), List.mem_of_getElem? (i := 772) (by decide +kernel), List.mem_of_getElem? (i := 773) (by decide +kernel)⟩
def lw_privs_1 : List (MethodName × Nat) := [(⟨"FoldWalks$History", "latest", "()I"⟩, 3), (⟨"FoldWalks", "startWalk", "(III)I"⟩, 5), (⟨"FoldWalks$Mover", "arrives", "(LFoldWalks$State;LFoldWalks$Walk;J)Z"⟩, 2), (⟨"FoldWalks$Mover", "land", "(LFoldWalks$Walk;I)V"⟩, 2), (⟨"FoldWalks$Walk", "squaresTo", "(IJJ)J"⟩, 10), (⟨"FoldWalks$Reader", "openTerm", "(I)V"⟩, 8), (⟨"FoldWalks$Reader", "take", "(I)I"⟩, 8), (⟨"FoldWalks$Reader", "takeSign", "(I)I"⟩, 8), (⟨"FoldWalks$Reader", "closeTerm", "()V"⟩, 8), (⟨"FoldWalks$Reader", "takeDigit", "(I)I"⟩, 8), (⟨"FoldWalks$Reader", "takeLetter", "(Z)I"⟩, 8), (⟨"FoldWalksModel", "begins", "()V"⟩, 12), (⟨"FoldWalksModel", "adds", "(III)I"⟩, 12), (⟨"FoldWalksModel", "acted", "(I)I"⟩, 12), (⟨"FoldWalksModel", "returns", "()V"⟩, 12), (⟨"FoldWalksModel", "removes", "(I)I"⟩, 12)]
theorem lw_r1 : ∀ q ∈ lw_privs_1, lw_okq q := List.forall_mem_cons.mpr ⟨lw_p0, List.forall_mem_cons.mpr ⟨lw_p1, List.forall_mem_cons.mpr ⟨lw_p2, List.forall_mem_cons.mpr ⟨lw_p3, List.forall_mem_cons.mpr ⟨lw_p4, List.forall_mem_cons.mpr ⟨lw_p5, List.forall_mem_cons.mpr ⟨lw_p6, List.forall_mem_cons.mpr ⟨lw_p7, List.forall_mem_cons.mpr ⟨lw_p8, List.forall_mem_cons.mpr ⟨lw_p9, List.forall_mem_cons.mpr ⟨lw_p10, List.forall_mem_cons.mpr ⟨lw_p11, List.forall_mem_cons.mpr ⟨lw_p12, List.forall_mem_cons.mpr ⟨lw_p13, List.forall_mem_cons.mpr ⟨lw_p14, List.forall_mem_cons.mpr ⟨lw_p15, fun _ h => absurd h List.not_mem_nil⟩⟩⟩⟩⟩⟩⟩⟩⟩⟩⟩⟩⟩⟩⟩⟩
theorem lw_p16 : lw_okq (⟨"FoldWalksModel", "termPart", "(II)I"⟩, 12) := ⟨⟨by decide +kernel, by decide +kernel⟩, List.mem_of_getElem? (i := 700) (by decide +kernel), List.mem_of_getElem? (i := 777) (by decide +kernel), List.mem_of_getElem? (i := 778) (by decide +kernel)⟩
theorem lw_p17 : lw_okq (⟨"FoldWalksModel", "corrects", "(JJ)Z"⟩, 12) := ⟨⟨by decide +kernel, by decide +kernel⟩, List.mem_of_getElem? (i := 700) (by decide +kernel), List.mem_of_getElem? (i := 791) (by decide +kernel), List.mem_of_getElem? (i := 792) (by decide +kernel)⟩
theorem lw_p18 : lw_okq (⟨"FoldWalksModel", "goesRound", "()Z"⟩, 12) := ⟨⟨by decide +kernel, by decide +kernel⟩, List.mem_of_getElem? (i := 700) (by decide +kernel), List.mem_of_getElem? (i := 797) (by decide +kernel), List.mem_of_getElem? (i := 798) (by decide +kernel)⟩
theorem lw_p19 : lw_okq (⟨"FoldWalksModel", "sum", "(III)J"⟩, 12) := ⟨⟨by decide +kernel, by decide +kernel⟩, List.mem_of_getElem? (i := 700) (by decide +kernel), List.mem_of_getElem? (i := 801) (by decide +kernel), List.mem_of_getElem? (i := 802) (by decide +kernel)⟩
theorem lw_p20 : lw_okq (⟨"FoldWalksModel", "given", "(IIII)J"⟩, 12) := ⟨⟨by decide +kernel, by decide +kernel⟩, List.mem_of_getElem? (i := 700) (by decide +kernel), List.mem_of_getElem? (i := 805) (by decide +kernel), List.mem_of_getElem? (i := 806) (by decide +kernel)⟩
theorem lw_p21 : lw_okq (⟨"FoldWalksModel", "opens", "(III)I"⟩, 12) := ⟨⟨by decide +kernel, by decide +kernel⟩, List.mem_of_getElem? (i := 700) (by decide +kernel), List.mem_of_getElem? (i := 813) (by decide +kernel), List.mem_of_getElem? (i := 814) (by decide +kernel)⟩
theorem lw_p22 : lw_okq (⟨"FoldWalksModel", "puts", "(III)V"⟩, 12) := ⟨⟨by decide +kernel, by decide +kernel⟩, List.mem_of_getElem? (i := 700) (by decide +kernel), List.mem_of_getElem? (i := 817) (by decide +kernel), List.mem_of_getElem? (i := 818) (by decide +kernel)⟩
theorem lw_p23 : lw_okq (⟨"FoldWalksModel", "joins", "(II)V"⟩, 12) := ⟨⟨by decide +kernel, by decide +kernel⟩, List.mem_of_getElem? (i := 700) (by decide +kernel), List.mem_of_getElem? (i := 824) (by decide +kernel), List.mem_of_getElem? (i := 825) (by decide +kernel)⟩
theorem lw_p24 : lw_okq (⟨"FoldWalksModel", "places", "(I)I"⟩, 12) := ⟨⟨by decide +kernel, by decide +kernel⟩, List.mem_of_getElem? (i := 700) (by decide +kernel), List.mem_of_getElem? (i := 828) (by decide +kernel), List.mem_of_getElem? (i := 829) (by decide +kernel)⟩
theorem lw_p25 : lw_okq (⟨"FoldWalksModel", "isWalk", "(I)Z"⟩, 12) := ⟨⟨by decide +kernel, by decide +kernel⟩, List.mem_of_getElem? (i := 700) (by decide +kernel), List.mem_of_getElem? (i := 836) (by decide +kernel), List.mem_of_getElem? (i := 837) (by decide +kernel)⟩
theorem lw_p26 : lw_okq (⟨"FoldWalksModel", "branches", "(III)I"⟩, 12) := ⟨⟨by decide +kernel, by decide +kernel⟩, List.mem_of_getElem? (i := 700) (by decide +kernel), List.mem_of_getElem? (i := 840) (by decide +kernel), List.mem_of_getElem? (i := 841) (by decide +kernel)⟩
theorem lw_p27 : lw_okq (⟨"FoldWalksModel", "placePart", "(III)I"⟩, 12) := ⟨⟨by decide +kernel, by decide +kernel⟩, List.mem_of_getElem? (i := 700) (by decide +kernel), List.mem_of_getElem? (i := 844) (by decide +kernel), List.mem_of_getElem? (i := 845) (by decide +kernel)⟩
theorem lw_p28 : lw_okq (⟨"FoldWalksModel", "walks", "(II)I"⟩, 12) := ⟨⟨by decide +kernel, by decide +kernel⟩, List.mem_of_getElem? (i := 700) (by decide +kernel), List.mem_of_getElem? (i := 857) (by decide +kernel), List.mem_of_getElem? (i := 858) (by decide +kernel)⟩
theorem lw_p29 : lw_okq (⟨"FoldWalksModel", "stateOf", "(I)I"⟩, 12) := ⟨⟨by decide +kernel, by decide +kernel⟩, List.mem_of_getElem? (i := 700) (by decide +kernel), List.mem_of_getElem? (i := 861) (by decide +kernel), List.mem_of_getElem? (i := 862) (by decide +kernel)⟩
theorem lw_p30 : lw_okq (⟨"FoldWalksModel", "walkPart", "(II)I"⟩, 12) := ⟨⟨by decide +kernel, by decide +kernel⟩, List.mem_of_getElem? (i := 700) (by decide +kernel), List.mem_of_getElem? (i := 865) (by decide +kernel), List.mem_of_getElem? (i := 866) (by decide +kernel)⟩
theorem lw_p31 : lw_okq (⟨"FoldWalksModel", "goes", "(I)Z"⟩, 12) := ⟨⟨by decide +kernel, by decide +kernel⟩, List.mem_of_getElem? (i := 700) (by decide +kernel), List.mem_of_getElem? (i := 869) (by decide +kernel), List.mem_of_getElem? (i := 870) (by decide +kernel)⟩
def lw_privs_2 : List (MethodName × Nat) := [(⟨"FoldWalksModel", "termPart", "(II)I"⟩, 12), (⟨"FoldWalksModel", "corrects", "(JJ)Z"⟩, 12), (⟨"FoldWalksModel", "goesRound", "()Z"⟩, 12), (⟨"FoldWalksModel", "sum", "(III)J"⟩, 12), (⟨"FoldWalksModel", "given", "(IIII)J"⟩, 12), (⟨"FoldWalksModel", "opens", "(III)I"⟩, 12), (⟨"FoldWalksModel", "puts", "(III)V"⟩, 12), (⟨"FoldWalksModel", "joins", "(II)V"⟩, 12), (⟨"FoldWalksModel", "places", "(I)I"⟩, 12), (⟨"FoldWalksModel", "isWalk", "(I)Z"⟩, 12), (⟨"FoldWalksModel", "branches", "(III)I"⟩, 12), (⟨"FoldWalksModel", "placePart", "(III)I"⟩, 12), (⟨"FoldWalksModel", "walks", "(II)I"⟩, 12), (⟨"FoldWalksModel", "stateOf", "(I)I"⟩, 12), (⟨"FoldWalksModel", "walkPart", "(II)I"⟩, 12), (⟨"FoldWalksModel", "goes", "(I)Z"⟩, 12)]
theorem lw_r2 : ∀ q ∈ lw_privs_2, lw_okq q := List.forall_mem_cons.mpr ⟨lw_p16, List.forall_mem_cons.mpr ⟨lw_p17, List.forall_mem_cons.mpr ⟨lw_p18, List.forall_mem_cons.mpr ⟨lw_p19, List.forall_mem_cons.mpr ⟨lw_p20, List.forall_mem_cons.mpr ⟨lw_p21, List.forall_mem_cons.mpr ⟨lw_p22, List.forall_mem_cons.mpr ⟨lw_p23, List.forall_mem_cons.mpr ⟨lw_p24, List.forall_mem_cons.mpr ⟨lw_p25, List.forall_mem_cons.mpr ⟨lw_p26, List.forall_mem_cons.mpr ⟨lw_p27, List.forall_mem_cons.mpr ⟨lw_p28, List.forall_mem_cons.mpr ⟨lw_p29, List.forall_mem_cons.mpr ⟨lw_p30, List.forall_mem_cons.mpr ⟨lw_p31, fun _ h => absurd h List.not_mem_nil⟩⟩⟩⟩⟩⟩⟩⟩⟩⟩⟩⟩⟩⟩⟩⟩
theorem lw_p32 : lw_okq (⟨"FoldWalksModel", "tries", "(III)Z"⟩, 12) := ⟨⟨by decide +kernel, by decide +kernel⟩, List.mem_of_getElem? (i := 700) (by decide +kernel), List.mem_of_getElem? (i := 873) (by decide +kernel), List.mem_of_getElem? (i := 874) (by decide +kernel)⟩
theorem lw_p33 : lw_okq (⟨"FoldWalksModel", "arrives", "(III)V"⟩, 12) := ⟨⟨by decide +kernel, by decide +kernel⟩, List.mem_of_getElem? (i := 700) (by decide +kernel), List.mem_of_getElem? (i := 877) (by decide +kernel), List.mem_of_getElem? (i := 878) (by decide +kernel)⟩
theorem lw_p34 : lw_okq (⟨"FoldWalksModel", "drops", "(I)I"⟩, 12) := ⟨⟨by decide +kernel, by decide +kernel⟩, List.mem_of_getElem? (i := 700) (by decide +kernel), List.mem_of_getElem? (i := 885) (by decide +kernel), List.mem_of_getElem? (i := 886) (by decide +kernel)⟩
theorem lw_p35 : lw_okq (⟨"FoldWalksModel", "isFrom", "(II)Z"⟩, 12) := ⟨⟨by decide +kernel, by decide +kernel⟩, List.mem_of_getElem? (i := 700) (by decide +kernel), List.mem_of_getElem? (i := 889) (by decide +kernel), List.mem_of_getElem? (i := 890) (by decide +kernel)⟩
theorem lw_p36 : lw_okq (⟨"FoldWalksModel", "sets", "(II)I"⟩, 12) := ⟨⟨by decide +kernel, by decide +kernel⟩, List.mem_of_getElem? (i := 700) (by decide +kernel), List.mem_of_getElem? (i := 897) (by decide +kernel), List.mem_of_getElem? (i := 898) (by decide +kernel)⟩
theorem lw_p37 : lw_okq (⟨"FoldWalksModel", "ofKind", "(II)I"⟩, 12) := ⟨⟨by decide +kernel, by decide +kernel⟩, List.mem_of_getElem? (i := 700) (by decide +kernel), List.mem_of_getElem? (i := 920) (by decide +kernel), List.mem_of_getElem? (i := 921) (by decide +kernel)⟩
theorem lw_p38 : lw_okq (⟨"FoldWalksModel", "begunFrom", "(I)I"⟩, 12) := ⟨⟨by decide +kernel, by decide +kernel⟩, List.mem_of_getElem? (i := 700) (by decide +kernel), List.mem_of_getElem? (i := 924) (by decide +kernel), List.mem_of_getElem? (i := 925) (by decide +kernel)⟩
theorem lw_p39 : lw_okq (⟨"FoldWalksModel", "ofWalks", "(I)I"⟩, 12) := ⟨⟨by decide +kernel, by decide +kernel⟩, List.mem_of_getElem? (i := 700) (by decide +kernel), List.mem_of_getElem? (i := 936) (by decide +kernel), List.mem_of_getElem? (i := 937) (by decide +kernel)⟩
theorem lw_p40 : lw_okq (⟨"FoldWalksModel", "reads", "()Z"⟩, 12) := ⟨⟨by decide +kernel, by decide +kernel⟩, List.mem_of_getElem? (i := 700) (by decide +kernel), List.mem_of_getElem? (i := 982) (by decide +kernel), List.mem_of_getElem? (i := 983) (by decide +kernel)⟩
theorem lw_p41 : lw_okq (⟨"FoldWalksModel", "sees", "(II)Z"⟩, 12) := ⟨⟨by decide +kernel, by decide +kernel⟩, List.mem_of_getElem? (i := 700) (by decide +kernel), List.mem_of_getElem? (i := 986) (by decide +kernel), List.mem_of_getElem? (i := 987) (by decide +kernel)⟩
theorem lw_p42 : lw_okq (⟨"FoldWalksModel", "readsTerm", "(I)Z"⟩, 12) := ⟨⟨by decide +kernel, by decide +kernel⟩, List.mem_of_getElem? (i := 700) (by decide +kernel), List.mem_of_getElem? (i := 990) (by decide +kernel), List.mem_of_getElem? (i := 991) (by decide +kernel)⟩
def lw_privs_3 : List (MethodName × Nat) := [(⟨"FoldWalksModel", "tries", "(III)Z"⟩, 12), (⟨"FoldWalksModel", "arrives", "(III)V"⟩, 12), (⟨"FoldWalksModel", "drops", "(I)I"⟩, 12), (⟨"FoldWalksModel", "isFrom", "(II)Z"⟩, 12), (⟨"FoldWalksModel", "sets", "(II)I"⟩, 12), (⟨"FoldWalksModel", "ofKind", "(II)I"⟩, 12), (⟨"FoldWalksModel", "begunFrom", "(I)I"⟩, 12), (⟨"FoldWalksModel", "ofWalks", "(I)I"⟩, 12), (⟨"FoldWalksModel", "reads", "()Z"⟩, 12), (⟨"FoldWalksModel", "sees", "(II)Z"⟩, 12), (⟨"FoldWalksModel", "readsTerm", "(I)Z"⟩, 12)]
theorem lw_r3 : ∀ q ∈ lw_privs_3, lw_okq q := List.forall_mem_cons.mpr ⟨lw_p32, List.forall_mem_cons.mpr ⟨lw_p33, List.forall_mem_cons.mpr ⟨lw_p34, List.forall_mem_cons.mpr ⟨lw_p35, List.forall_mem_cons.mpr ⟨lw_p36, List.forall_mem_cons.mpr ⟨lw_p37, List.forall_mem_cons.mpr ⟨lw_p38, List.forall_mem_cons.mpr ⟨lw_p39, List.forall_mem_cons.mpr ⟨lw_p40, List.forall_mem_cons.mpr ⟨lw_p41, List.forall_mem_cons.mpr ⟨lw_p42, fun _ h => absurd h List.not_mem_nil⟩⟩⟩⟩⟩⟩⟩⟩⟩⟩⟩
def lw_privs : List (MethodName × Nat) := lw_privs_1 ++ (lw_privs_2 ++ (lw_privs_3))
def lw_tbl : List Cond := k2_sels lw_privs ++ tables_1
theorem lw_privs_ok : ∀ q ∈ lw_privs, lw_okq q := by
  show ∀ q ∈ lw_privs_1 ++ (lw_privs_2 ++ (lw_privs_3)), lw_okq q
  exact List.forall_mem_append.mpr ⟨lw_r1, List.forall_mem_append.mpr ⟨lw_r2, lw_r3⟩⟩
/-- the streams that the claim lets the run draw from -/
abbrev lw_cs : List Choice := [Jvm.Choice.named "NaN.bits"]
theorem lw_bits : nanBits ∈ lw_cs := by first | decide | exact List.mem_cons_self | simp [lw_cs, nanBits]
end
section
def RX0 : String := "FoldWalks$Corrector"
def TX0 : u_T := fun k => match k with
  | 0 => ("FoldWalks$Corrector", "spot", "LFoldWalks$Spot;", true)
  | 1 => ("FoldWalks$Corrector", "x", "I", false)
  | 2 => ("FoldWalks$Corrector", "y", "I", false)
  | _ => ("FoldWalks$Corrector", "rounds", "I", false)
def tyX0 : Nat → FieldType := fun k => match k with
  | 0 => .object "FoldWalks$Spot"
  | 1 => .int
  | 2 => .int
  | _ => .int
abbrev wsX00 : List Cond := u_ws RX0 TX0 4
theorem nmX0 : ∀ a, a < 4 → ∀ b, b < 4 → a ≠ b → (TX0 a).2.1 ≠ (TX0 b).2.1 := by decide +kernel
theorem tyX0_ok : ∀ k, k < 4 → parseFieldDescriptor (TX0 k).2.2.1 = some (tyX0 k) := by decide +kernel
abbrev cX0_init : ByteArray := prog_2_method_1_code
def yX0_init : MethodName := ⟨RX0, "<init>", "()V"⟩
abbrev cX0_correct : ByteArray := prog_2_method_2_code
def yX0_correct : MethodName := ⟨RX0, "correct", "(LFoldWalks$State;JJ)Z"⟩
def RX1 : String := "FoldWalks$History"
def TX1 : u_T := fun k => match k with
  | 0 => ("FoldWalks$History", "states", "[LFoldWalks$State;", true)
  | 1 => ("FoldWalks$History", "oldest", "I", false)
  | _ => ("FoldWalks$History", "size", "I", false)
def tyX1 : Nat → FieldType := fun k => match k with
  | 0 => .array (.object "FoldWalks$State")
  | 1 => .int
  | _ => .int
abbrev wsX10 : List Cond := u_ws RX1 TX1 3
theorem nmX1 : ∀ a, a < 3 → ∀ b, b < 3 → a ≠ b → (TX1 a).2.1 ≠ (TX1 b).2.1 := by decide +kernel
theorem tyX1_ok : ∀ k, k < 3 → parseFieldDescriptor (TX1 k).2.2.1 = some (tyX1 k) := by decide +kernel
abbrev cX1_init : ByteArray := prog_3_method_1_code
def yX1_init : MethodName := ⟨RX1, "<init>", "()V"⟩
abbrev cX1_keep : ByteArray := prog_3_method_2_code
def yX1_keep : MethodName := ⟨RX1, "keep", "(LFoldWalks$State;)V"⟩
abbrev cX1_restore : ByteArray := prog_3_method_3_code
def yX1_restore : MethodName := ⟨RX1, "restore", "(LFoldWalks$State;)V"⟩
abbrev cX1_latest : ByteArray := prog_3_method_4_code
def yX1_latest : MethodName := ⟨RX1, "latest", "()I"⟩
def RX2 : String := "FoldWalks$Mover"
def TX2 : u_T := fun k => match k with
  | 0 => ("FoldWalks$Mover", "corrector", "LFoldWalks$Corrector;", true)
  | _ => ("FoldWalks$Mover", "from", "LFoldWalks$Spot;", true)
def tyX2 : Nat → FieldType := fun k => match k with
  | 0 => .object "FoldWalks$Corrector"
  | _ => .object "FoldWalks$Spot"
abbrev wsX20 : List Cond := u_ws RX2 TX2 2
theorem nmX2 : ∀ a, a < 2 → ∀ b, b < 2 → a ≠ b → (TX2 a).2.1 ≠ (TX2 b).2.1 := by decide +kernel
theorem tyX2_ok : ∀ k, k < 2 → parseFieldDescriptor (TX2 k).2.2.1 = some (tyX2 k) := by decide +kernel
abbrev cX2_init : ByteArray := prog_4_method_1_code
def yX2_init : MethodName := ⟨RX2, "<init>", "()V"⟩
abbrev cX2_advance : ByteArray := prog_4_method_2_code
def yX2_advance : MethodName := ⟨RX2, "advance", "(LFoldWalks$State;LFoldWalks$Walk;)Z"⟩
abbrev cX2_arrives : ByteArray := prog_4_method_3_code
def yX2_arrives : MethodName := ⟨RX2, "arrives", "(LFoldWalks$State;LFoldWalks$Walk;J)Z"⟩
abbrev cX2_land : ByteArray := prog_4_method_4_code
def yX2_land : MethodName := ⟨RX2, "land", "(LFoldWalks$Walk;I)V"⟩
abbrev cX2_leavesCrossing : ByteArray := prog_4_method_5_code
def yX2_leavesCrossing : MethodName := ⟨RX2, "leavesCrossing", "(LFoldWalks$State;LFoldWalks$Walk;II)Z"⟩
abbrev cX2_signBeside : ByteArray := prog_4_method_6_code
def yX2_signBeside : MethodName := ⟨RX2, "signBeside", "(LFoldWalks$Walk;II)I"⟩
def RX3 : String := "FoldWalks$Reader"
def TX3 : u_T := fun k => match k with
  | 0 => ("FoldWalks$Reader", "terms", "LFoldWalks$Terms;", true)
  | 1 => ("FoldWalks$Reader", "place", "I", false)
  | 2 => ("FoldWalks$Reader", "reason", "I", false)
  | 3 => ("FoldWalks$Reader", "phase", "I", false)
  | 4 => ("FoldWalks$Reader", "sign", "I", false)
  | 5 => ("FoldWalks$Reader", "digit", "I", false)
  | 6 => ("FoldWalks$Reader", "xLetters", "I", false)
  | _ => ("FoldWalks$Reader", "yLetters", "I", false)
def tyX3 : Nat → FieldType := fun k => match k with
  | 0 => .object "FoldWalks$Terms"
  | 1 => .int
  | 2 => .int
  | 3 => .int
  | 4 => .int
  | 5 => .int
  | 6 => .int
  | _ => .int
abbrev wsX30 : List Cond := u_ws RX3 TX3 8
theorem nmX3 : ∀ a, a < 8 → ∀ b, b < 8 → a ≠ b → (TX3 a).2.1 ≠ (TX3 b).2.1 := by decide +kernel
theorem tyX3_ok : ∀ k, k < 8 → parseFieldDescriptor (TX3 k).2.2.1 = some (tyX3 k) := by decide +kernel
abbrev cX3_init : ByteArray := prog_5_method_1_code
def yX3_init : MethodName := ⟨RX3, "<init>", "()V"⟩
abbrev cX3_scan : ByteArray := prog_5_method_2_code
def yX3_scan : MethodName := ⟨RX3, "scan", "(LFoldWalks$Text;)V"⟩
abbrev cX3_take : ByteArray := prog_5_method_3_code
def yX3_take : MethodName := ⟨RX3, "take", "(I)I"⟩
abbrev cX3_takeSign : ByteArray := prog_5_method_4_code
def yX3_takeSign : MethodName := ⟨RX3, "takeSign", "(I)I"⟩
abbrev cX3_takeDigit : ByteArray := prog_5_method_5_code
def yX3_takeDigit : MethodName := ⟨RX3, "takeDigit", "(I)I"⟩
abbrev cX3_takeLetter : ByteArray := prog_5_method_6_code
def yX3_takeLetter : MethodName := ⟨RX3, "takeLetter", "(Z)I"⟩
abbrev cX3_openTerm : ByteArray := prog_5_method_7_code
def yX3_openTerm : MethodName := ⟨RX3, "openTerm", "(I)V"⟩
abbrev cX3_closeTerm : ByteArray := prog_5_method_8_code
def yX3_closeTerm : MethodName := ⟨RX3, "closeTerm", "()V"⟩
def RX4 : String := "FoldWalks$Settings"
def TX4 : u_T := fun k => match k with
  | _ => ("FoldWalks$Settings", "values", "[I", true)
def tyX4 : Nat → FieldType := fun k => match k with
  | _ => .array .int
abbrev wsX40 : List Cond := u_ws RX4 TX4 1
theorem nmX4 : ∀ a, a < 1 → ∀ b, b < 1 → a ≠ b → (TX4 a).2.1 ≠ (TX4 b).2.1 := by decide +kernel
theorem tyX4_ok : ∀ k, k < 1 → parseFieldDescriptor (TX4 k).2.2.1 = some (tyX4 k) := by decide +kernel
abbrev cX4_init : ByteArray := prog_6_method_1_code
def yX4_init : MethodName := ⟨RX4, "<init>", "()V"⟩
abbrev cX4_allows : ByteArray := prog_6_method_2_code
def yX4_allows : MethodName := ⟨RX4, "allows", "(II)Z"⟩
abbrev cX4_at : ByteArray := prog_6_method_3_code
def yX4_at : MethodName := ⟨RX4, "at", "(I)I"⟩
abbrev cX4_replace : ByteArray := prog_6_method_4_code
def yX4_replace : MethodName := ⟨RX4, "replace", "(II)I"⟩
abbrev cX4_copyFrom : ByteArray := prog_6_method_5_code
def yX4_copyFrom : MethodName := ⟨RX4, "copyFrom", "(LFoldWalks$Settings;)V"⟩
def RX5 : String := "FoldWalks$Spot"
def TX5 : u_T := fun k => match k with
  | 0 => ("FoldWalks$Spot", "f", "J", false)
  | 1 => ("FoldWalks$Spot", "gx", "J", false)
  | _ => ("FoldWalks$Spot", "gy", "J", false)
def tyX5 : Nat → FieldType := fun k => match k with
  | 0 => .long
  | 1 => .long
  | _ => .long
abbrev wsX50 : List Cond := u_ws RX5 TX5 3
theorem nmX5 : ∀ a, a < 3 → ∀ b, b < 3 → a ≠ b → (TX5 a).2.1 ≠ (TX5 b).2.1 := by decide +kernel
theorem tyX5_ok : ∀ k, k < 3 → parseFieldDescriptor (TX5 k).2.2.1 = some (tyX5 k) := by decide +kernel
abbrev cX5_init : ByteArray := prog_7_method_1_code
def yX5_init : MethodName := ⟨RX5, "<init>", "()V"⟩
abbrev cX5_look : ByteArray := prog_7_method_2_code
def yX5_look : MethodName := ⟨RX5, "look", "(LFoldWalks$Terms;JJ)V"⟩
abbrev cX5_steepness : ByteArray := prog_7_method_3_code
def yX5_steepness : MethodName := ⟨RX5, "steepness", "()J"⟩
def RX6 : String := "FoldWalks$State"
def TX6 : u_T := fun k => match k with
  | 0 => ("FoldWalks$State", "terms", "LFoldWalks$Terms;", true)
  | 1 => ("FoldWalks$State", "walks", "LFoldWalks$Walks;", true)
  | _ => ("FoldWalks$State", "settings", "LFoldWalks$Settings;", true)
def tyX6 : Nat → FieldType := fun k => match k with
  | 0 => .object "FoldWalks$Terms"
  | 1 => .object "FoldWalks$Walks"
  | _ => .object "FoldWalks$Settings"
abbrev wsX60 : List Cond := u_ws RX6 TX6 3
theorem nmX6 : ∀ a, a < 3 → ∀ b, b < 3 → a ≠ b → (TX6 a).2.1 ≠ (TX6 b).2.1 := by decide +kernel
theorem tyX6_ok : ∀ k, k < 3 → parseFieldDescriptor (TX6 k).2.2.1 = some (tyX6 k) := by decide +kernel
abbrev cX6_init : ByteArray := prog_8_method_1_code
def yX6_init : MethodName := ⟨RX6, "<init>", "()V"⟩
abbrev cX6_copyFrom : ByteArray := prog_8_method_2_code
def yX6_copyFrom : MethodName := ⟨RX6, "copyFrom", "(LFoldWalks$State;)V"⟩
def RX7 : String := "FoldWalks$Terms"
def TX7 : u_T := fun k => match k with
  | 0 => ("FoldWalks$Terms", "factors", "[I", true)
  | 1 => ("FoldWalks$Terms", "xPowers", "[I", true)
  | 2 => ("FoldWalks$Terms", "yPowers", "[I", true)
  | _ => ("FoldWalks$Terms", "size", "I", false)
def tyX7 : Nat → FieldType := fun k => match k with
  | 0 => .array .int
  | 1 => .array .int
  | 2 => .array .int
  | _ => .int
abbrev wsX70 : List Cond := u_ws RX7 TX7 4
theorem nmX7 : ∀ a, a < 4 → ∀ b, b < 4 → a ≠ b → (TX7 a).2.1 ≠ (TX7 b).2.1 := by decide +kernel
theorem tyX7_ok : ∀ k, k < 4 → parseFieldDescriptor (TX7 k).2.2.1 = some (tyX7 k) := by decide +kernel
abbrev cX7_init : ByteArray := prog_9_method_1_code
def yX7_init : MethodName := ⟨RX7, "<init>", "()V"⟩
abbrev cX7_has : ByteArray := prog_9_method_2_code
def yX7_has : MethodName := ⟨RX7, "has", "(I)Z"⟩
abbrev cX7_isFull : ByteArray := prog_9_method_3_code
def yX7_isFull : MethodName := ⟨RX7, "isFull", "()Z"⟩
abbrev cX7_add : ByteArray := prog_9_method_4_code
def yX7_add : MethodName := ⟨RX7, "add", "(III)V"⟩
abbrev cX7_remove : ByteArray := prog_9_method_5_code
def yX7_remove : MethodName := ⟨RX7, "remove", "(I)I"⟩
abbrev cX7_clear : ByteArray := prog_9_method_6_code
def yX7_clear : MethodName := ⟨RX7, "clear", "()V"⟩
abbrev cX7_coefficient : ByteArray := prog_9_method_7_code
def yX7_coefficient : MethodName := ⟨RX7, "coefficient", "(JI)J"⟩
abbrev cX7_scale : ByteArray := prog_9_method_8_code
def yX7_scale : MethodName := ⟨RX7, "scale", "(I)J"⟩
abbrev cX7_copyFrom : ByteArray := prog_9_method_9_code
def yX7_copyFrom : MethodName := ⟨RX7, "copyFrom", "(LFoldWalks$Terms;)V"⟩
def RX8 : String := "FoldWalks$Text"
def TX8 : u_T := fun k => match k with
  | 0 => ("FoldWalks$Text", "characters", "[I", true)
  | _ => ("FoldWalks$Text", "length", "I", false)
def tyX8 : Nat → FieldType := fun k => match k with
  | 0 => .array .int
  | _ => .int
abbrev wsX80 : List Cond := u_ws RX8 TX8 2
theorem nmX8 : ∀ a, a < 2 → ∀ b, b < 2 → a ≠ b → (TX8 a).2.1 ≠ (TX8 b).2.1 := by decide +kernel
theorem tyX8_ok : ∀ k, k < 2 → parseFieldDescriptor (TX8 k).2.2.1 = some (tyX8 k) := by decide +kernel
abbrev cX8_init : ByteArray := prog_10_method_1_code
def yX8_init : MethodName := ⟨RX8, "<init>", "()V"⟩
abbrev cX8_isFull : ByteArray := prog_10_method_2_code
def yX8_isFull : MethodName := ⟨RX8, "isFull", "()Z"⟩
abbrev cX8_append : ByteArray := prog_10_method_3_code
def yX8_append : MethodName := ⟨RX8, "append", "(I)V"⟩
def RX9 : String := "FoldWalks$Walk"
def TX9 : u_T := fun k => match k with
  | 0 => ("FoldWalks$Walk", "xs", "[I", true)
  | 1 => ("FoldWalks$Walk", "ys", "[I", true)
  | 2 => ("FoldWalks$Walk", "rounds", "[I", true)
  | 3 => ("FoldWalks$Walk", "kinds", "[I", true)
  | 4 => ("FoldWalks$Walk", "size", "I", false)
  | 5 => ("FoldWalks$Walk", "sign", "I", false)
  | 6 => ("FoldWalks$Walk", "pace", "I", false)
  | 7 => ("FoldWalks$Walk", "stuck", "Z", false)
  | 8 => ("FoldWalks$Walk", "parent", "I", false)
  | _ => ("FoldWalks$Walk", "parentPlace", "I", false)
def tyX9 : Nat → FieldType := fun k => match k with
  | 0 => .array .int
  | 1 => .array .int
  | 2 => .array .int
  | 3 => .array .int
  | 4 => .int
  | 5 => .int
  | 6 => .int
  | 7 => .boolean
  | 8 => .int
  | _ => .int
abbrev wsX90 : List Cond := u_ws RX9 TX9 10
theorem nmX9 : ∀ a, a < 10 → ∀ b, b < 10 → a ≠ b → (TX9 a).2.1 ≠ (TX9 b).2.1 := by decide +kernel
theorem tyX9_ok : ∀ k, k < 10 → parseFieldDescriptor (TX9 k).2.2.1 = some (tyX9 k) := by decide +kernel
abbrev cX9_init : ByteArray := prog_11_method_1_code
def yX9_init : MethodName := ⟨RX9, "<init>", "()V"⟩
abbrev cX9_start : ByteArray := prog_11_method_2_code
def yX9_start : MethodName := ⟨RX9, "start", "(IIII)V"⟩
abbrev cX9_addPlace : ByteArray := prog_11_method_3_code
def yX9_addPlace : MethodName := ⟨RX9, "addPlace", "(LFoldWalks$Corrector;I)V"⟩
abbrev cX9_has : ByteArray := prog_11_method_4_code
def yX9_has : MethodName := ⟨RX9, "has", "(I)Z"⟩
abbrev cX9_condition : ByteArray := prog_11_method_5_code
def yX9_condition : MethodName := ⟨RX9, "condition", "()I"⟩
abbrev cX9_lastX : ByteArray := prog_11_method_6_code
def yX9_lastX : MethodName := ⟨RX9, "lastX", "()I"⟩
abbrev cX9_lastY : ByteArray := prog_11_method_7_code
def yX9_lastY : MethodName := ⟨RX9, "lastY", "()I"⟩
abbrev cX9_changeOfX : ByteArray := prog_11_method_8_code
def yX9_changeOfX : MethodName := ⟨RX9, "changeOfX", "(I)I"⟩
abbrev cX9_changeOfY : ByteArray := prog_11_method_9_code
def yX9_changeOfY : MethodName := ⟨RX9, "changeOfY", "(I)I"⟩
abbrev cX9_placesOfKind : ByteArray := prog_11_method_10_code
def yX9_placesOfKind : MethodName := ⟨RX9, "placesOfKind", "(I)I"⟩
abbrev cX9_lengthInParts : ByteArray := prog_11_method_11_code
def yX9_lengthInParts : MethodName := ⟨RX9, "lengthInParts", "()I"⟩
abbrev cX9_nearestTo : ByteArray := prog_11_method_12_code
def yX9_nearestTo : MethodName := ⟨RX9, "nearestTo", "(JJ)I"⟩
abbrev cX9_squaresTo : ByteArray := prog_11_method_13_code
def yX9_squaresTo : MethodName := ⟨RX9, "squaresTo", "(IJJ)J"⟩
abbrev cX9_copyFrom : ByteArray := prog_11_method_14_code
def yX9_copyFrom : MethodName := ⟨RX9, "copyFrom", "(LFoldWalks$Walk;)V"⟩
def RX10 : String := "FoldWalks$Walks"
def TX10 : u_T := fun k => match k with
  | 0 => ("FoldWalks$Walks", "walks", "[LFoldWalks$Walk;", true)
  | 1 => ("FoldWalks$Walks", "marked", "[Z", true)
  | 2 => ("FoldWalks$Walks", "newNumbers", "[I", true)
  | _ => ("FoldWalks$Walks", "size", "I", false)
def tyX10 : Nat → FieldType := fun k => match k with
  | 0 => .array (.object "FoldWalks$Walk")
  | 1 => .array .boolean
  | 2 => .array .int
  | _ => .int
abbrev wsX100 : List Cond := u_ws RX10 TX10 4
theorem nmX10 : ∀ a, a < 4 → ∀ b, b < 4 → a ≠ b → (TX10 a).2.1 ≠ (TX10 b).2.1 := by decide +kernel
theorem tyX10_ok : ∀ k, k < 4 → parseFieldDescriptor (TX10 k).2.2.1 = some (tyX10 k) := by decide +kernel
abbrev cX10_init : ByteArray := prog_12_method_1_code
def yX10_init : MethodName := ⟨RX10, "<init>", "()V"⟩
abbrev cX10_at : ByteArray := prog_12_method_2_code
def yX10_at : MethodName := ⟨RX10, "at", "(I)LFoldWalks$Walk;"⟩
abbrev cX10_isFull : ByteArray := prog_12_method_3_code
def yX10_isFull : MethodName := ⟨RX10, "isFull", "()Z"⟩
abbrev cX10_addOne : ByteArray := prog_12_method_4_code
def yX10_addOne : MethodName := ⟨RX10, "addOne", "()LFoldWalks$Walk;"⟩
abbrev cX10_clear : ByteArray := prog_12_method_5_code
def yX10_clear : MethodName := ⟨RX10, "clear", "()V"⟩
abbrev cX10_markFamily : ByteArray := prog_12_method_6_code
def yX10_markFamily : MethodName := ⟨RX10, "markFamily", "(I)I"⟩
abbrev cX10_removeFamily : ByteArray := prog_12_method_7_code
def yX10_removeFamily : MethodName := ⟨RX10, "removeFamily", "(I)V"⟩
abbrev cX10_places : ByteArray := prog_12_method_8_code
def yX10_places : MethodName := ⟨RX10, "places", "()I"⟩
abbrev cX10_placesOfKind : ByteArray := prog_12_method_9_code
def yX10_placesOfKind : MethodName := ⟨RX10, "placesOfKind", "(I)I"⟩
abbrev cX10_copyFrom : ByteArray := prog_12_method_10_code
def yX10_copyFrom : MethodName := ⟨RX10, "copyFrom", "(LFoldWalks$Walks;)V"⟩
def RX11 : String := "FoldWalks"
def TX11 : u_T := fun k => match k with
  | 0 => ("FoldWalks", "now", "LFoldWalks$State;", true)
  | 1 => ("FoldWalks", "history", "LFoldWalks$History;", true)
  | 2 => ("FoldWalks", "mover", "LFoldWalks$Mover;", true)
  | 3 => ("FoldWalks", "text", "LFoldWalks$Text;", true)
  | _ => ("FoldWalks", "reader", "LFoldWalks$Reader;", true)
def tyX11 : Nat → FieldType := fun k => match k with
  | 0 => .object "FoldWalks$State"
  | 1 => .object "FoldWalks$History"
  | 2 => .object "FoldWalks$Mover"
  | 3 => .object "FoldWalks$Text"
  | _ => .object "FoldWalks$Reader"
abbrev wsX110 : List Cond := u_ws RX11 TX11 5
theorem nmX11 : ∀ a, a < 5 → ∀ b, b < 5 → a ≠ b → (TX11 a).2.1 ≠ (TX11 b).2.1 := by decide +kernel
theorem tyX11_ok : ∀ k, k < 5 → parseFieldDescriptor (TX11 k).2.2.1 = some (tyX11 k) := by decide +kernel
abbrev cX11_init : ByteArray := prog_1_method_1_code
def yX11_init : MethodName := ⟨RX11, "<init>", "()V"⟩
abbrev cX11_term : ByteArray := prog_1_method_2_code
def yX11_term : MethodName := ⟨RX11, "term", "(III)I"⟩
abbrev cX11_dropTerm : ByteArray := prog_1_method_3_code
def yX11_dropTerm : MethodName := ⟨RX11, "dropTerm", "(I)I"⟩
abbrev cX11_termOf : ByteArray := prog_1_method_4_code
def yX11_termOf : MethodName := ⟨RX11, "termOf", "(II)I"⟩
abbrev cX11_value : ByteArray := prog_1_method_5_code
def yX11_value : MethodName := ⟨RX11, "value", "(III)J"⟩
abbrev cX11_corrected : ByteArray := prog_1_method_6_code
def yX11_corrected : MethodName := ⟨RX11, "corrected", "(III)I"⟩
abbrev cX11_begin : ByteArray := prog_1_method_7_code
def yX11_begin : MethodName := ⟨RX11, "begin", "(III)I"⟩
abbrev cX11_branch : ByteArray := prog_1_method_8_code
def yX11_branch : MethodName := ⟨RX11, "branch", "(III)I"⟩
abbrev cX11_startWalk : ByteArray := prog_1_method_9_code
def yX11_startWalk : MethodName := ⟨RX11, "startWalk", "(III)I"⟩
abbrev cX11_step : ByteArray := prog_1_method_10_code
def yX11_step : MethodName := ⟨RX11, "step", "(II)I"⟩
abbrev cX11_drop : ByteArray := prog_1_method_11_code
def yX11_drop : MethodName := ⟨RX11, "drop", "(I)I"⟩
abbrev cX11_set : ByteArray := prog_1_method_12_code
def yX11_set : MethodName := ⟨RX11, "set", "(II)I"⟩
abbrev cX11_walkOf : ByteArray := prog_1_method_13_code
def yX11_walkOf : MethodName := ⟨RX11, "walkOf", "(II)I"⟩
abbrev cX11_placeOf : ByteArray := prog_1_method_14_code
def yX11_placeOf : MethodName := ⟨RX11, "placeOf", "(III)I"⟩
abbrev cX11_count : ByteArray := prog_1_method_15_code
def yX11_count : MethodName := ⟨RX11, "count", "(I)I"⟩
abbrev cX11_meets : ByteArray := prog_1_method_16_code
def yX11_meets : MethodName := ⟨RX11, "meets", "(I)I"⟩
abbrev cX11_lengthBits : ByteArray := prog_1_method_17_code
def yX11_lengthBits : MethodName := ⟨RX11, "lengthBits", "(I)I"⟩
abbrev cX11_nearest : ByteArray := prog_1_method_18_code
def yX11_nearest : MethodName := ⟨RX11, "nearest", "(III)I"⟩
abbrev cX11_undo : ByteArray := prog_1_method_19_code
def yX11_undo : MethodName := ⟨RX11, "undo", "()I"⟩
abbrev cX11_type : ByteArray := prog_1_method_20_code
def yX11_type : MethodName := ⟨RX11, "type", "(I)I"⟩
abbrev cX11_clearText : ByteArray := prog_1_method_21_code
def yX11_clearText : MethodName := ⟨RX11, "clearText", "()I"⟩
abbrev cX11_fault : ByteArray := prog_1_method_22_code
def yX11_fault : MethodName := ⟨RX11, "fault", "(I)I"⟩
abbrev cX11_read : ByteArray := prog_1_method_23_code
def yX11_read : MethodName := ⟨RX11, "read", "()I"⟩
abbrev cX11_isWithin : ByteArray := prog_1_method_24_code
def yX11_isWithin : MethodName := ⟨RX11, "isWithin", "(JJJ)Z"⟩
abbrev cX11_isPlace : ByteArray := prog_1_method_25_code
def yX11_isPlace : MethodName := ⟨RX11, "isPlace", "(JJ)Z"⟩
abbrev cX11_isSign : ByteArray := prog_1_method_26_code
def yX11_isSign : MethodName := ⟨RX11, "isSign", "(I)Z"⟩
abbrev cX11_power : ByteArray := prog_1_method_27_code
def yX11_power : MethodName := ⟨RX11, "power", "(JI)J"⟩
abbrev cX11_rootOf : ByteArray := prog_1_method_28_code
def yX11_rootOf : MethodName := ⟨RX11, "rootOf", "(J)J"⟩
abbrev cX11_bitsOfParts : ByteArray := prog_1_method_29_code
def yX11_bitsOfParts : MethodName := ⟨RX11, "bitsOfParts", "(I)I"⟩
def RX12 : String := "FoldWalksModel"
def TX12 : u_T := fun k => match k with
  | 0 => ("FoldWalksModel", "s", "[I", true)
  | 1 => ("FoldWalksModel", "begun", "[I", true)
  | 2 => ("FoldWalksModel", "past", "[I", true)
  | 3 => ("FoldWalksModel", "states", "I", false)
  | 4 => ("FoldWalksModel", "text", "[I", true)
  | 5 => ("FoldWalksModel", "length", "I", false)
  | 6 => ("FoldWalksModel", "atX", "I", false)
  | 7 => ("FoldWalksModel", "atY", "I", false)
  | 8 => ("FoldWalksModel", "rounds", "I", false)
  | 9 => ("FoldWalksModel", "numbers", "[I", true)
  | 10 => ("FoldWalksModel", "at", "I", false)
  | _ => ("FoldWalksModel", "reason", "I", false)
def tyX12 : Nat → FieldType := fun k => match k with
  | 0 => .array .int
  | 1 => .array .int
  | 2 => .array .int
  | 3 => .int
  | 4 => .array .int
  | 5 => .int
  | 6 => .int
  | 7 => .int
  | 8 => .int
  | 9 => .array .int
  | 10 => .int
  | _ => .int
abbrev wsX120 : List Cond := u_ws RX12 TX12 12
theorem nmX12 : ∀ a, a < 12 → ∀ b, b < 12 → a ≠ b → (TX12 a).2.1 ≠ (TX12 b).2.1 := by decide +kernel
theorem tyX12_ok : ∀ k, k < 12 → parseFieldDescriptor (TX12 k).2.2.1 = some (tyX12 k) := by decide +kernel
abbrev cX12_init : ByteArray := prog_14_method_1_code
def yX12_init : MethodName := ⟨RX12, "<init>", "()V"⟩
abbrev cX12_in : ByteArray := prog_14_method_3_code
def yX12_in : MethodName := ⟨RX12, "in", "(III)Z"⟩
abbrev cX12_isIn : ByteArray := prog_14_method_4_code
def yX12_isIn : MethodName := ⟨RX12, "isIn", "(I)Z"⟩
abbrev cX12_begins : ByteArray := prog_14_method_5_code
def yX12_begins : MethodName := ⟨RX12, "begins", "()V"⟩
abbrev cX12_returns : ByteArray := prog_14_method_6_code
def yX12_returns : MethodName := ⟨RX12, "returns", "()V"⟩
abbrev cX12_acted : ByteArray := prog_14_method_7_code
def yX12_acted : MethodName := ⟨RX12, "acted", "(I)I"⟩
abbrev cX12_termPart : ByteArray := prog_14_method_8_code
def yX12_termPart : MethodName := ⟨RX12, "termPart", "(II)I"⟩
abbrev cX12_power : ByteArray := prog_14_method_9_code
def yX12_power : MethodName := ⟨RX12, "power", "(JI)J"⟩
abbrev cX12_given : ByteArray := prog_14_method_10_code
def yX12_given : MethodName := ⟨RX12, "given", "(IIII)J"⟩
abbrev cX12_sum : ByteArray := prog_14_method_11_code
def yX12_sum : MethodName := ⟨RX12, "sum", "(III)J"⟩
abbrev cX12_root : ByteArray := prog_14_method_12_code
def yX12_root : MethodName := ⟨RX12, "root", "(J)J"⟩
abbrev cX12_goesRound : ByteArray := prog_14_method_13_code
def yX12_goesRound : MethodName := ⟨RX12, "goesRound", "()Z"⟩
abbrev cX12_corrects : ByteArray := prog_14_method_14_code
def yX12_corrects : MethodName := ⟨RX12, "corrects", "(JJ)Z"⟩
abbrev cX12_walkAt : ByteArray := prog_14_method_15_code
def yX12_walkAt : MethodName := ⟨RX12, "walkAt", "(I)I"⟩
abbrev cX12_walkPart : ByteArray := prog_14_method_16_code
def yX12_walkPart : MethodName := ⟨RX12, "walkPart", "(II)I"⟩
abbrev cX12_puts : ByteArray := prog_14_method_17_code
def yX12_puts : MethodName := ⟨RX12, "puts", "(III)V"⟩
abbrev cX12_places : ByteArray := prog_14_method_18_code
def yX12_places : MethodName := ⟨RX12, "places", "(I)I"⟩
abbrev cX12_placePart : ByteArray := prog_14_method_19_code
def yX12_placePart : MethodName := ⟨RX12, "placePart", "(III)I"⟩
abbrev cX12_isWalk : ByteArray := prog_14_method_20_code
def yX12_isWalk : MethodName := ⟨RX12, "isWalk", "(I)Z"⟩
abbrev cX12_joins : ByteArray := prog_14_method_21_code
def yX12_joins : MethodName := ⟨RX12, "joins", "(II)V"⟩
abbrev cX12_opens : ByteArray := prog_14_method_22_code
def yX12_opens : MethodName := ⟨RX12, "opens", "(III)I"⟩
abbrev cX12_tries : ByteArray := prog_14_method_23_code
def yX12_tries : MethodName := ⟨RX12, "tries", "(III)Z"⟩
abbrev cX12_arrives : ByteArray := prog_14_method_24_code
def yX12_arrives : MethodName := ⟨RX12, "arrives", "(III)V"⟩
abbrev cX12_goes : ByteArray := prog_14_method_25_code
def yX12_goes : MethodName := ⟨RX12, "goes", "(I)Z"⟩
abbrev cX12_stateOf : ByteArray := prog_14_method_26_code
def yX12_stateOf : MethodName := ⟨RX12, "stateOf", "(I)I"⟩
abbrev cX12_walks : ByteArray := prog_14_method_27_code
def yX12_walks : MethodName := ⟨RX12, "walks", "(II)I"⟩
abbrev cX12_branches : ByteArray := prog_14_method_28_code
def yX12_branches : MethodName := ⟨RX12, "branches", "(III)I"⟩
abbrev cX12_isFrom : ByteArray := prog_14_method_29_code
def yX12_isFrom : MethodName := ⟨RX12, "isFrom", "(II)Z"⟩
abbrev cX12_drops : ByteArray := prog_14_method_30_code
def yX12_drops : MethodName := ⟨RX12, "drops", "(I)I"⟩
abbrev cX12_adds : ByteArray := prog_14_method_31_code
def yX12_adds : MethodName := ⟨RX12, "adds", "(III)I"⟩
abbrev cX12_term : ByteArray := prog_14_method_32_code
def yX12_term : MethodName := ⟨RX12, "term", "(III)I"⟩
abbrev cX12_removes : ByteArray := prog_14_method_33_code
def yX12_removes : MethodName := ⟨RX12, "removes", "(I)I"⟩
abbrev cX12_dropTerm : ByteArray := prog_14_method_34_code
def yX12_dropTerm : MethodName := ⟨RX12, "dropTerm", "(I)I"⟩
abbrev cX12_isSide : ByteArray := prog_14_method_35_code
def yX12_isSide : MethodName := ⟨RX12, "isSide", "(I)Z"⟩
abbrev cX12_begin : ByteArray := prog_14_method_36_code
def yX12_begin : MethodName := ⟨RX12, "begin", "(III)I"⟩
abbrev cX12_branch : ByteArray := prog_14_method_37_code
def yX12_branch : MethodName := ⟨RX12, "branch", "(III)I"⟩
abbrev cX12_step : ByteArray := prog_14_method_38_code
def yX12_step : MethodName := ⟨RX12, "step", "(II)I"⟩
abbrev cX12_drop : ByteArray := prog_14_method_39_code
def yX12_drop : MethodName := ⟨RX12, "drop", "(I)I"⟩
abbrev cX12_sets : ByteArray := prog_14_method_40_code
def yX12_sets : MethodName := ⟨RX12, "sets", "(II)I"⟩
abbrev cX12_set : ByteArray := prog_14_method_41_code
def yX12_set : MethodName := ⟨RX12, "set", "(II)I"⟩
abbrev cX12_termOf : ByteArray := prog_14_method_42_code
def yX12_termOf : MethodName := ⟨RX12, "termOf", "(II)I"⟩
abbrev cX12_value : ByteArray := prog_14_method_43_code
def yX12_value : MethodName := ⟨RX12, "value", "(III)J"⟩
abbrev cX12_corrected : ByteArray := prog_14_method_44_code
def yX12_corrected : MethodName := ⟨RX12, "corrected", "(III)I"⟩
abbrev cX12_ofKind : ByteArray := prog_14_method_45_code
def yX12_ofKind : MethodName := ⟨RX12, "ofKind", "(II)I"⟩
abbrev cX12_begunFrom : ByteArray := prog_14_method_46_code
def yX12_begunFrom : MethodName := ⟨RX12, "begunFrom", "(I)I"⟩
abbrev cX12_walkOf : ByteArray := prog_14_method_47_code
def yX12_walkOf : MethodName := ⟨RX12, "walkOf", "(II)I"⟩
abbrev cX12_placeOf : ByteArray := prog_14_method_48_code
def yX12_placeOf : MethodName := ⟨RX12, "placeOf", "(III)I"⟩
abbrev cX12_ofWalks : ByteArray := prog_14_method_49_code
def yX12_ofWalks : MethodName := ⟨RX12, "ofWalks", "(I)I"⟩
abbrev cX12_count : ByteArray := prog_14_method_50_code
def yX12_count : MethodName := ⟨RX12, "count", "(I)I"⟩
abbrev cX12_meets : ByteArray := prog_14_method_51_code
def yX12_meets : MethodName := ⟨RX12, "meets", "(I)I"⟩
abbrev cX12_square : ByteArray := prog_14_method_52_code
def yX12_square : MethodName := ⟨RX12, "square", "(I)I"⟩
abbrev cX12_lengthBits : ByteArray := prog_14_method_53_code
def yX12_lengthBits : MethodName := ⟨RX12, "lengthBits", "(I)I"⟩
abbrev cX12_nearest : ByteArray := prog_14_method_54_code
def yX12_nearest : MethodName := ⟨RX12, "nearest", "(III)I"⟩
abbrev cX12_undo : ByteArray := prog_14_method_55_code
def yX12_undo : MethodName := ⟨RX12, "undo", "()I"⟩
abbrev cX12_type : ByteArray := prog_14_method_56_code
def yX12_type : MethodName := ⟨RX12, "type", "(I)I"⟩
abbrev cX12_clearText : ByteArray := prog_14_method_57_code
def yX12_clearText : MethodName := ⟨RX12, "clearText", "()I"⟩
abbrev cX12_sees : ByteArray := prog_14_method_58_code
def yX12_sees : MethodName := ⟨RX12, "sees", "(II)Z"⟩
abbrev cX12_readsTerm : ByteArray := prog_14_method_59_code
def yX12_readsTerm : MethodName := ⟨RX12, "readsTerm", "(I)Z"⟩
abbrev cX12_reads : ByteArray := prog_14_method_60_code
def yX12_reads : MethodName := ⟨RX12, "reads", "()Z"⟩
abbrev cX12_fault : ByteArray := prog_14_method_61_code
def yX12_fault : MethodName := ⟨RX12, "fault", "(I)I"⟩
abbrev cX12_read : ByteArray := prog_14_method_62_code
def yX12_read : MethodName := ⟨RX12, "read", "()I"⟩
def RJxf58ca : String := "java/lang/Float"
def TJxf58ca : u_T := fun k => match k with
  | _ => ("", "", "", false)
def tyJxf58ca : Nat → FieldType := fun k => match k with
  | _ => .int
abbrev wsJxf58ca0 : List Cond := u_ws RJxf58ca TJxf58ca 0
abbrev cJxf58ca_isNaN_12338 : ByteArray := prog_15_method_6_code
def yJxf58ca_isNaN_12338 : MethodName := ⟨RJxf58ca, "isNaN", "(F)Z"⟩
abbrev cJxf58ca_floatToIntBits_5c35a : ByteArray := prog_15_method_24_code
def yJxf58ca_floatToIntBits_5c35a : MethodName := ⟨RJxf58ca, "floatToIntBits", "(F)I"⟩
def RJ9 : String := "java/lang/Math"
def TJ9 : u_T := fun k => match k with
  | _ => ("", "", "", false)
def tyJ9 : Nat → FieldType := fun k => match k with
  | _ => .int
abbrev wsJ90 : List Cond := u_ws RJ9 TJ9 0
abbrev cJ9_max_7cf53 : ByteArray := prog_16_method_65_code
def yJ9_max_7cf53 : MethodName := ⟨RJ9, "max", "(II)I"⟩
abbrev cJ9_min_7cf53 : ByteArray := prog_16_method_69_code
def yJ9_min_7cf53 : MethodName := ⟨RJ9, "min", "(II)I"⟩
def RL : String := "FoldWalksLaw"
abbrev cL_law : ByteArray := code
def yL_law : MethodName := ⟨RL, "law", "([I)Z"⟩
abbrev vwCl : List vw_C := [(RX0, TX0, 4), (RX1, TX1, 3), (RX2, TX2, 2), (RX3, TX3, 8), (RX4, TX4, 1), (RX5, TX5, 3), (RX6, TX6, 3), (RX7, TX7, 4), (RX8, TX8, 2), (RX9, TX9, 10), (RX10, TX10, 4), (RX11, TX11, 5), (RX12, TX12, 12)]
end
section
theorem dX0_init_0 : decode cX0_init 0 = .ok (.aload_n 0, 1) := by decide +kernel
theorem dX0_init_1 : decode cX0_init 1 = .ok (.invokespecial 1, 3) := by decide +kernel
theorem dX0_init_4 : decode cX0_init 4 = .ok (.aload_n 0, 1) := by decide +kernel
theorem dX0_init_5 : decode cX0_init 5 = .ok (.new 7, 3) := by decide +kernel
theorem dX0_init_8 : decode cX0_init 8 = .ok (.dup, 1) := by decide +kernel
theorem dX0_init_9 : decode cX0_init 9 = .ok (.invokespecial 9, 3) := by decide +kernel
theorem dX0_init_12 : decode cX0_init 12 = .ok (.putfield 10, 3) := by decide +kernel
theorem dX0_init_15 : decode cX0_init 15 = .ok (.return_, 1) := by decide +kernel
theorem dX0_correct_0 : decode cX0_correct 0 = .ok (.lload_n 2, 1) := by decide +kernel
theorem dX0_correct_1 : decode cX0_correct 1 = .ok (.lstore 6, 2) := by decide +kernel
theorem dX0_correct_3 : decode cX0_correct 3 = .ok (.lload 4, 2) := by decide +kernel
theorem dX0_correct_5 : decode cX0_correct 5 = .ok (.lstore 8, 2) := by decide +kernel
theorem dX0_correct_7 : decode cX0_correct 7 = .ok (.aload_n 1, 1) := by decide +kernel
theorem dX0_correct_8 : decode cX0_correct 8 = .ok (.getfield 16, 3) := by decide +kernel
theorem dX0_correct_11 : decode cX0_correct 11 = .ok (.iconst 2, 1) := by decide +kernel
theorem dX0_correct_12 : decode cX0_correct 12 = .ok (.invokevirtual 24, 3) := by decide +kernel
theorem dX0_correct_15 : decode cX0_correct 15 = .ok (.istore 10, 2) := by decide +kernel
theorem dX0_correct_17 : decode cX0_correct 17 = .ok (.iconst 1, 1) := by decide +kernel
theorem dX0_correct_18 : decode cX0_correct 18 = .ok (.istore 11, 2) := by decide +kernel
theorem dX0_correct_20 : decode cX0_correct 20 = .ok (.iload 11, 2) := by decide +kernel
theorem dX0_correct_22 : decode cX0_correct 22 = .ok (.iload 10, 2) := by decide +kernel
theorem dX0_correct_24 : decode cX0_correct 24 = .ok (.if_icmp .gt 144, 3) := by decide +kernel
theorem dX0_correct_27 : decode cX0_correct 27 = .ok (.lload 6, 2) := by decide +kernel
theorem dX0_correct_29 : decode cX0_correct 29 = .ok (.lload 8, 2) := by decide +kernel
theorem dX0_correct_31 : decode cX0_correct 31 = .ok (.invokestatic 28, 3) := by decide +kernel
theorem dX0_correct_34 : decode cX0_correct 34 = .ok (.ifCond .ne 5, 3) := by decide +kernel
theorem dX0_correct_37 : decode cX0_correct 37 = .ok (.iconst 0, 1) := by decide +kernel
theorem dX0_correct_38 : decode cX0_correct 38 = .ok (.ireturn, 1) := by decide +kernel
theorem dX0_correct_39 : decode cX0_correct 39 = .ok (.aload_n 0, 1) := by decide +kernel
theorem dX0_correct_40 : decode cX0_correct 40 = .ok (.getfield 10, 3) := by decide +kernel
theorem dX0_correct_43 : decode cX0_correct 43 = .ok (.aload_n 1, 1) := by decide +kernel
theorem dX0_correct_44 : decode cX0_correct 44 = .ok (.getfield 34, 3) := by decide +kernel
theorem dX0_correct_47 : decode cX0_correct 47 = .ok (.lload 6, 2) := by decide +kernel
theorem dX0_correct_49 : decode cX0_correct 49 = .ok (.lload 8, 2) := by decide +kernel
theorem dX0_correct_51 : decode cX0_correct 51 = .ok (.invokevirtual 38, 3) := by decide +kernel
theorem dX0_correct_54 : decode cX0_correct 54 = .ok (.aload_n 0, 1) := by decide +kernel
theorem dX0_correct_55 : decode cX0_correct 55 = .ok (.getfield 10, 3) := by decide +kernel
theorem dX0_correct_58 : decode cX0_correct 58 = .ok (.invokevirtual 42, 3) := by decide +kernel
theorem dX0_correct_61 : decode cX0_correct 61 = .ok (.lstore 12, 2) := by decide +kernel
theorem dX0_correct_63 : decode cX0_correct 63 = .ok (.lload 12, 2) := by decide +kernel
theorem dX0_correct_65 : decode cX0_correct 65 = .ok (.lconst 0, 1) := by decide +kernel
theorem dX0_correct_66 : decode cX0_correct 66 = .ok (.lcmp, 1) := by decide +kernel
theorem dX0_correct_67 : decode cX0_correct 67 = .ok (.ifCond .ne 5, 3) := by decide +kernel
theorem dX0_correct_70 : decode cX0_correct 70 = .ok (.iconst 0, 1) := by decide +kernel
theorem dX0_correct_71 : decode cX0_correct 71 = .ok (.ireturn, 1) := by decide +kernel
theorem dX0_correct_72 : decode cX0_correct 72 = .ok (.aload_n 0, 1) := by decide +kernel
theorem dX0_correct_73 : decode cX0_correct 73 = .ok (.getfield 10, 3) := by decide +kernel
theorem dX0_correct_76 : decode cX0_correct 76 = .ok (.getfield 46, 3) := by decide +kernel
theorem dX0_correct_79 : decode cX0_correct 79 = .ok (.aload_n 0, 1) := by decide +kernel
theorem dX0_correct_80 : decode cX0_correct 80 = .ok (.getfield 10, 3) := by decide +kernel
theorem dX0_correct_83 : decode cX0_correct 83 = .ok (.getfield 50, 3) := by decide +kernel
theorem dX0_correct_86 : decode cX0_correct 86 = .ok (.lmul, 1) := by decide +kernel
theorem dX0_correct_87 : decode cX0_correct 87 = .ok (.lload 12, 2) := by decide +kernel
theorem dX0_correct_89 : decode cX0_correct 89 = .ok (.ldiv, 1) := by decide +kernel
theorem dX0_correct_90 : decode cX0_correct 90 = .ok (.lstore 14, 2) := by decide +kernel
theorem dX0_correct_92 : decode cX0_correct 92 = .ok (.aload_n 0, 1) := by decide +kernel
theorem dX0_correct_93 : decode cX0_correct 93 = .ok (.getfield 10, 3) := by decide +kernel
theorem dX0_correct_96 : decode cX0_correct 96 = .ok (.getfield 46, 3) := by decide +kernel
theorem dX0_correct_99 : decode cX0_correct 99 = .ok (.aload_n 0, 1) := by decide +kernel
theorem dX0_correct_100 : decode cX0_correct 100 = .ok (.getfield 10, 3) := by decide +kernel
theorem dX0_correct_103 : decode cX0_correct 103 = .ok (.getfield 53, 3) := by decide +kernel
theorem dX0_correct_106 : decode cX0_correct 106 = .ok (.lmul, 1) := by decide +kernel
theorem dX0_correct_107 : decode cX0_correct 107 = .ok (.lload 12, 2) := by decide +kernel
theorem dX0_correct_109 : decode cX0_correct 109 = .ok (.ldiv, 1) := by decide +kernel
theorem dX0_correct_110 : decode cX0_correct 110 = .ok (.lstore 16, 2) := by decide +kernel
theorem dX0_correct_112 : decode cX0_correct 112 = .ok (.lload 14, 2) := by decide +kernel
theorem dX0_correct_114 : decode cX0_correct 114 = .ok (.lconst 0, 1) := by decide +kernel
theorem dX0_correct_115 : decode cX0_correct 115 = .ok (.lcmp, 1) := by decide +kernel
theorem dX0_correct_116 : decode cX0_correct 116 = .ok (.ifCond .ne 32, 3) := by decide +kernel
theorem dX0_correct_119 : decode cX0_correct 119 = .ok (.lload 16, 2) := by decide +kernel
theorem dX0_correct_121 : decode cX0_correct 121 = .ok (.lconst 0, 1) := by decide +kernel
theorem dX0_correct_122 : decode cX0_correct 122 = .ok (.lcmp, 1) := by decide +kernel
theorem dX0_correct_123 : decode cX0_correct 123 = .ok (.ifCond .ne 25, 3) := by decide +kernel
theorem dX0_correct_126 : decode cX0_correct 126 = .ok (.aload_n 0, 1) := by decide +kernel
theorem dX0_correct_127 : decode cX0_correct 127 = .ok (.lload 6, 2) := by decide +kernel
theorem dX0_correct_129 : decode cX0_correct 129 = .ok (.l2i, 1) := by decide +kernel
theorem dX0_correct_130 : decode cX0_correct 130 = .ok (.putfield 56, 3) := by decide +kernel
theorem dX0_correct_133 : decode cX0_correct 133 = .ok (.aload_n 0, 1) := by decide +kernel
theorem dX0_correct_134 : decode cX0_correct 134 = .ok (.lload 8, 2) := by decide +kernel
theorem dX0_correct_136 : decode cX0_correct 136 = .ok (.l2i, 1) := by decide +kernel
theorem dX0_correct_137 : decode cX0_correct 137 = .ok (.putfield 60, 3) := by decide +kernel
theorem dX0_correct_140 : decode cX0_correct 140 = .ok (.aload_n 0, 1) := by decide +kernel
theorem dX0_correct_141 : decode cX0_correct 141 = .ok (.iload 11, 2) := by decide +kernel
theorem dX0_correct_143 : decode cX0_correct 143 = .ok (.putfield 63, 3) := by decide +kernel
theorem dX0_correct_146 : decode cX0_correct 146 = .ok (.iconst 1, 1) := by decide +kernel
theorem dX0_correct_147 : decode cX0_correct 147 = .ok (.ireturn, 1) := by decide +kernel
theorem dX0_correct_148 : decode cX0_correct 148 = .ok (.lload 6, 2) := by decide +kernel
theorem dX0_correct_150 : decode cX0_correct 150 = .ok (.lload 14, 2) := by decide +kernel
theorem dX0_correct_152 : decode cX0_correct 152 = .ok (.lsub, 1) := by decide +kernel
theorem dX0_correct_153 : decode cX0_correct 153 = .ok (.lstore 6, 2) := by decide +kernel
theorem dX0_correct_155 : decode cX0_correct 155 = .ok (.lload 8, 2) := by decide +kernel
theorem dX0_correct_157 : decode cX0_correct 157 = .ok (.lload 16, 2) := by decide +kernel
theorem dX0_correct_159 : decode cX0_correct 159 = .ok (.lsub, 1) := by decide +kernel
theorem dX0_correct_160 : decode cX0_correct 160 = .ok (.lstore 8, 2) := by decide +kernel
theorem dX0_correct_162 : decode cX0_correct 162 = .ok (.iinc 11 1, 3) := by decide +kernel
theorem dX0_correct_165 : decode cX0_correct 165 = .ok (.goto (-145), 3) := by decide +kernel
theorem dX0_correct_168 : decode cX0_correct 168 = .ok (.iconst 0, 1) := by decide +kernel
theorem dX0_correct_169 : decode cX0_correct 169 = .ok (.ireturn, 1) := by decide +kernel
theorem dX1_init_0 : decode cX1_init 0 = .ok (.aload_n 0, 1) := by decide +kernel
theorem dX1_init_1 : decode cX1_init 1 = .ok (.invokespecial 3, 3) := by decide +kernel
theorem dX1_init_4 : decode cX1_init 4 = .ok (.aload_n 0, 1) := by decide +kernel
theorem dX1_init_5 : decode cX1_init 5 = .ok (.iconst 4, 1) := by decide +kernel
theorem dX1_init_6 : decode cX1_init 6 = .ok (.anewarray 9, 3) := by decide +kernel
theorem dX1_init_9 : decode cX1_init 9 = .ok (.putfield 11, 3) := by decide +kernel
theorem dX1_init_12 : decode cX1_init 12 = .ok (.iconst 0, 1) := by decide +kernel
theorem dX1_init_13 : decode cX1_init 13 = .ok (.istore_n 1, 1) := by decide +kernel
theorem dX1_init_14 : decode cX1_init 14 = .ok (.iload_n 1, 1) := by decide +kernel
theorem dX1_init_15 : decode cX1_init 15 = .ok (.iconst 4, 1) := by decide +kernel
theorem dX1_init_16 : decode cX1_init 16 = .ok (.if_icmp .ge 22, 3) := by decide +kernel
theorem dX1_init_19 : decode cX1_init 19 = .ok (.aload_n 0, 1) := by decide +kernel
theorem dX1_init_20 : decode cX1_init 20 = .ok (.getfield 11, 3) := by decide +kernel
theorem dX1_init_23 : decode cX1_init 23 = .ok (.iload_n 1, 1) := by decide +kernel
theorem dX1_init_24 : decode cX1_init 24 = .ok (.new 9, 3) := by decide +kernel
theorem dX1_init_27 : decode cX1_init 27 = .ok (.dup, 1) := by decide +kernel
theorem dX1_init_28 : decode cX1_init 28 = .ok (.invokespecial 17, 3) := by decide +kernel
theorem dX1_init_31 : decode cX1_init 31 = .ok (.aastore, 1) := by decide +kernel
theorem dX1_init_32 : decode cX1_init 32 = .ok (.iinc 1 1, 3) := by decide +kernel
theorem dX1_init_35 : decode cX1_init 35 = .ok (.goto (-21), 3) := by decide +kernel
theorem dX1_init_38 : decode cX1_init 38 = .ok (.return_, 1) := by decide +kernel
theorem dX1_keep_0 : decode cX1_keep 0 = .ok (.aload_n 0, 1) := by decide +kernel
theorem dX1_keep_1 : decode cX1_keep 1 = .ok (.getfield 18, 3) := by decide +kernel
theorem dX1_keep_4 : decode cX1_keep 4 = .ok (.iconst 4, 1) := by decide +kernel
theorem dX1_keep_5 : decode cX1_keep 5 = .ok (.if_icmp .lt 25, 3) := by decide +kernel
theorem dX1_keep_8 : decode cX1_keep 8 = .ok (.aload_n 0, 1) := by decide +kernel
theorem dX1_keep_9 : decode cX1_keep 9 = .ok (.aload_n 0, 1) := by decide +kernel
theorem dX1_keep_10 : decode cX1_keep 10 = .ok (.getfield 22, 3) := by decide +kernel
theorem dX1_keep_13 : decode cX1_keep 13 = .ok (.iconst 1, 1) := by decide +kernel
theorem dX1_keep_14 : decode cX1_keep 14 = .ok (.iadd, 1) := by decide +kernel
theorem dX1_keep_15 : decode cX1_keep 15 = .ok (.iconst 4, 1) := by decide +kernel
theorem dX1_keep_16 : decode cX1_keep 16 = .ok (.irem, 1) := by decide +kernel
theorem dX1_keep_17 : decode cX1_keep 17 = .ok (.putfield 22, 3) := by decide +kernel
theorem dX1_keep_20 : decode cX1_keep 20 = .ok (.aload_n 0, 1) := by decide +kernel
theorem dX1_keep_21 : decode cX1_keep 21 = .ok (.dup, 1) := by decide +kernel
theorem dX1_keep_22 : decode cX1_keep 22 = .ok (.getfield 18, 3) := by decide +kernel
theorem dX1_keep_25 : decode cX1_keep 25 = .ok (.iconst 1, 1) := by decide +kernel
theorem dX1_keep_26 : decode cX1_keep 26 = .ok (.isub, 1) := by decide +kernel
theorem dX1_keep_27 : decode cX1_keep 27 = .ok (.putfield 18, 3) := by decide +kernel
theorem dX1_keep_30 : decode cX1_keep 30 = .ok (.aload_n 0, 1) := by decide +kernel
theorem dX1_keep_31 : decode cX1_keep 31 = .ok (.dup, 1) := by decide +kernel
theorem dX1_keep_32 : decode cX1_keep 32 = .ok (.getfield 18, 3) := by decide +kernel
theorem dX1_keep_35 : decode cX1_keep 35 = .ok (.iconst 1, 1) := by decide +kernel
theorem dX1_keep_36 : decode cX1_keep 36 = .ok (.iadd, 1) := by decide +kernel
theorem dX1_keep_37 : decode cX1_keep 37 = .ok (.putfield 18, 3) := by decide +kernel
theorem dX1_keep_40 : decode cX1_keep 40 = .ok (.aload_n 0, 1) := by decide +kernel
theorem dX1_keep_41 : decode cX1_keep 41 = .ok (.getfield 11, 3) := by decide +kernel
theorem dX1_keep_44 : decode cX1_keep 44 = .ok (.aload_n 0, 1) := by decide +kernel
theorem dX1_keep_45 : decode cX1_keep 45 = .ok (.invokevirtual 25, 3) := by decide +kernel
theorem dX1_keep_48 : decode cX1_keep 48 = .ok (.aaload, 1) := by decide +kernel
theorem dX1_keep_49 : decode cX1_keep 49 = .ok (.aload_n 1, 1) := by decide +kernel
theorem dX1_keep_50 : decode cX1_keep 50 = .ok (.invokevirtual 29, 3) := by decide +kernel
theorem dX1_keep_53 : decode cX1_keep 53 = .ok (.return_, 1) := by decide +kernel
theorem dX1_restore_0 : decode cX1_restore 0 = .ok (.aload_n 0, 1) := by decide +kernel
theorem dX1_restore_1 : decode cX1_restore 1 = .ok (.getfield 18, 3) := by decide +kernel
theorem dX1_restore_4 : decode cX1_restore 4 = .ok (.ifCond .gt 4, 3) := by decide +kernel
theorem dX1_restore_7 : decode cX1_restore 7 = .ok (.return_, 1) := by decide +kernel
theorem dX1_restore_8 : decode cX1_restore 8 = .ok (.aload_n 1, 1) := by decide +kernel
theorem dX1_restore_9 : decode cX1_restore 9 = .ok (.aload_n 0, 1) := by decide +kernel
theorem dX1_restore_10 : decode cX1_restore 10 = .ok (.getfield 11, 3) := by decide +kernel
theorem dX1_restore_13 : decode cX1_restore 13 = .ok (.aload_n 0, 1) := by decide +kernel
theorem dX1_restore_14 : decode cX1_restore 14 = .ok (.invokevirtual 25, 3) := by decide +kernel
theorem dX1_restore_17 : decode cX1_restore 17 = .ok (.aaload, 1) := by decide +kernel
theorem dX1_restore_18 : decode cX1_restore 18 = .ok (.invokevirtual 29, 3) := by decide +kernel
theorem dX1_restore_21 : decode cX1_restore 21 = .ok (.aload_n 0, 1) := by decide +kernel
theorem dX1_restore_22 : decode cX1_restore 22 = .ok (.dup, 1) := by decide +kernel
theorem dX1_restore_23 : decode cX1_restore 23 = .ok (.getfield 18, 3) := by decide +kernel
theorem dX1_restore_26 : decode cX1_restore 26 = .ok (.iconst 1, 1) := by decide +kernel
theorem dX1_restore_27 : decode cX1_restore 27 = .ok (.isub, 1) := by decide +kernel
theorem dX1_restore_28 : decode cX1_restore 28 = .ok (.putfield 18, 3) := by decide +kernel
theorem dX1_restore_31 : decode cX1_restore 31 = .ok (.return_, 1) := by decide +kernel
theorem dX1_latest_0 : decode cX1_latest 0 = .ok (.aload_n 0, 1) := by decide +kernel
theorem dX1_latest_1 : decode cX1_latest 1 = .ok (.getfield 18, 3) := by decide +kernel
theorem dX1_latest_4 : decode cX1_latest 4 = .ok (.ifCond .gt 10, 3) := by decide +kernel
theorem dX1_latest_7 : decode cX1_latest 7 = .ok (.aload_n 0, 1) := by decide +kernel
theorem dX1_latest_8 : decode cX1_latest 8 = .ok (.getfield 22, 3) := by decide +kernel
theorem dX1_latest_11 : decode cX1_latest 11 = .ok (.goto 16, 3) := by decide +kernel
theorem dX1_latest_14 : decode cX1_latest 14 = .ok (.aload_n 0, 1) := by decide +kernel
theorem dX1_latest_15 : decode cX1_latest 15 = .ok (.getfield 22, 3) := by decide +kernel
theorem dX1_latest_18 : decode cX1_latest 18 = .ok (.aload_n 0, 1) := by decide +kernel
theorem dX1_latest_19 : decode cX1_latest 19 = .ok (.getfield 18, 3) := by decide +kernel
theorem dX1_latest_22 : decode cX1_latest 22 = .ok (.iadd, 1) := by decide +kernel
theorem dX1_latest_23 : decode cX1_latest 23 = .ok (.iconst 1, 1) := by decide +kernel
theorem dX1_latest_24 : decode cX1_latest 24 = .ok (.isub, 1) := by decide +kernel
theorem dX1_latest_25 : decode cX1_latest 25 = .ok (.iconst 4, 1) := by decide +kernel
theorem dX1_latest_26 : decode cX1_latest 26 = .ok (.irem, 1) := by decide +kernel
theorem dX1_latest_27 : decode cX1_latest 27 = .ok (.ireturn, 1) := by decide +kernel
theorem dX2_init_0 : decode cX2_init 0 = .ok (.aload_n 0, 1) := by decide +kernel
theorem dX2_init_1 : decode cX2_init 1 = .ok (.invokespecial 3, 3) := by decide +kernel
theorem dX2_init_4 : decode cX2_init 4 = .ok (.aload_n 0, 1) := by decide +kernel
theorem dX2_init_5 : decode cX2_init 5 = .ok (.new 9, 3) := by decide +kernel
theorem dX2_init_8 : decode cX2_init 8 = .ok (.dup, 1) := by decide +kernel
theorem dX2_init_9 : decode cX2_init 9 = .ok (.invokespecial 11, 3) := by decide +kernel
theorem dX2_init_12 : decode cX2_init 12 = .ok (.putfield 12, 3) := by decide +kernel
theorem dX2_init_15 : decode cX2_init 15 = .ok (.aload_n 0, 1) := by decide +kernel
theorem dX2_init_16 : decode cX2_init 16 = .ok (.new 18, 3) := by decide +kernel
theorem dX2_init_19 : decode cX2_init 19 = .ok (.dup, 1) := by decide +kernel
theorem dX2_init_20 : decode cX2_init 20 = .ok (.invokespecial 20, 3) := by decide +kernel
theorem dX2_init_23 : decode cX2_init 23 = .ok (.putfield 21, 3) := by decide +kernel
theorem dX2_init_26 : decode cX2_init 26 = .ok (.return_, 1) := by decide +kernel
theorem dX2_advance_0 : decode cX2_advance 0 = .ok (.aload_n 0, 1) := by decide +kernel
theorem dX2_advance_1 : decode cX2_advance 1 = .ok (.getfield 21, 3) := by decide +kernel
theorem dX2_advance_4 : decode cX2_advance 4 = .ok (.aload_n 1, 1) := by decide +kernel
theorem dX2_advance_5 : decode cX2_advance 5 = .ok (.getfield 25, 3) := by decide +kernel
theorem dX2_advance_8 : decode cX2_advance 8 = .ok (.aload_n 2, 1) := by decide +kernel
theorem dX2_advance_9 : decode cX2_advance 9 = .ok (.invokevirtual 31, 3) := by decide +kernel
theorem dX2_advance_12 : decode cX2_advance 12 = .ok (.i2l, 1) := by decide +kernel
theorem dX2_advance_13 : decode cX2_advance 13 = .ok (.aload_n 2, 1) := by decide +kernel
theorem dX2_advance_14 : decode cX2_advance 14 = .ok (.invokevirtual 37, 3) := by decide +kernel
theorem dX2_advance_17 : decode cX2_advance 17 = .ok (.i2l, 1) := by decide +kernel
theorem dX2_advance_18 : decode cX2_advance 18 = .ok (.invokevirtual 40, 3) := by decide +kernel
theorem dX2_advance_21 : decode cX2_advance 21 = .ok (.aload_n 0, 1) := by decide +kernel
theorem dX2_advance_22 : decode cX2_advance 22 = .ok (.getfield 21, 3) := by decide +kernel
theorem dX2_advance_25 : decode cX2_advance 25 = .ok (.invokevirtual 44, 3) := by decide +kernel
theorem dX2_advance_28 : decode cX2_advance 28 = .ok (.invokestatic 48, 3) := by decide +kernel
theorem dX2_advance_31 : decode cX2_advance 31 = .ok (.lstore_n 3, 1) := by decide +kernel
theorem dX2_advance_32 : decode cX2_advance 32 = .ok (.aload_n 2, 1) := by decide +kernel
theorem dX2_advance_33 : decode cX2_advance 33 = .ok (.getfield 52, 3) := by decide +kernel
theorem dX2_advance_36 : decode cX2_advance 36 = .ok (.ifCond .le 47, 3) := by decide +kernel
theorem dX2_advance_39 : decode cX2_advance 39 = .ok (.lload_n 3, 1) := by decide +kernel
theorem dX2_advance_40 : decode cX2_advance 40 = .ok (.lconst 0, 1) := by decide +kernel
theorem dX2_advance_41 : decode cX2_advance 41 = .ok (.lcmp, 1) := by decide +kernel
theorem dX2_advance_42 : decode cX2_advance 42 = .ok (.ifCond .eq 28, 3) := by decide +kernel
theorem dX2_advance_45 : decode cX2_advance 45 = .ok (.aload_n 0, 1) := by decide +kernel
theorem dX2_advance_46 : decode cX2_advance 46 = .ok (.aload_n 1, 1) := by decide +kernel
theorem dX2_advance_47 : decode cX2_advance 47 = .ok (.aload_n 2, 1) := by decide +kernel
theorem dX2_advance_48 : decode cX2_advance 48 = .ok (.lload_n 3, 1) := by decide +kernel
theorem dX2_advance_49 : decode cX2_advance 49 = .ok (.invokevirtual 56, 3) := by decide +kernel
theorem dX2_advance_52 : decode cX2_advance 52 = .ok (.ifCond .eq 18, 3) := by decide +kernel
theorem dX2_advance_55 : decode cX2_advance 55 = .ok (.aload_n 0, 1) := by decide +kernel
theorem dX2_advance_56 : decode cX2_advance 56 = .ok (.aload_n 2, 1) := by decide +kernel
theorem dX2_advance_57 : decode cX2_advance 57 = .ok (.aload_n 1, 1) := by decide +kernel
theorem dX2_advance_58 : decode cX2_advance 58 = .ok (.getfield 60, 3) := by decide +kernel
theorem dX2_advance_61 : decode cX2_advance 61 = .ok (.iconst 1, 1) := by decide +kernel
theorem dX2_advance_62 : decode cX2_advance 62 = .ok (.invokevirtual 66, 3) := by decide +kernel
theorem dX2_advance_65 : decode cX2_advance 65 = .ok (.invokevirtual 70, 3) := by decide +kernel
theorem dX2_advance_68 : decode cX2_advance 68 = .ok (.iconst 1, 1) := by decide +kernel
theorem dX2_advance_69 : decode cX2_advance 69 = .ok (.ireturn, 1) := by decide +kernel
theorem dX2_advance_70 : decode cX2_advance 70 = .ok (.aload_n 2, 1) := by decide +kernel
theorem dX2_advance_71 : decode cX2_advance 71 = .ok (.dup, 1) := by decide +kernel
theorem dX2_advance_72 : decode cX2_advance 72 = .ok (.getfield 52, 3) := by decide +kernel
theorem dX2_advance_75 : decode cX2_advance 75 = .ok (.iconst 2, 1) := by decide +kernel
theorem dX2_advance_76 : decode cX2_advance 76 = .ok (.idiv, 1) := by decide +kernel
theorem dX2_advance_77 : decode cX2_advance 77 = .ok (.putfield 52, 3) := by decide +kernel
theorem dX2_advance_80 : decode cX2_advance 80 = .ok (.goto (-48), 3) := by decide +kernel
theorem dX2_advance_83 : decode cX2_advance 83 = .ok (.aload_n 2, 1) := by decide +kernel
theorem dX2_advance_84 : decode cX2_advance 84 = .ok (.iconst 1, 1) := by decide +kernel
theorem dX2_advance_85 : decode cX2_advance 85 = .ok (.putfield 74, 3) := by decide +kernel
theorem dX2_advance_88 : decode cX2_advance 88 = .ok (.iconst 0, 1) := by decide +kernel
theorem dX2_advance_89 : decode cX2_advance 89 = .ok (.ireturn, 1) := by decide +kernel
theorem dX2_arrives_0 : decode cX2_arrives 0 = .ok (.lload_n 3, 1) := by decide +kernel
theorem dX2_arrives_1 : decode cX2_arrives 1 = .ok (.lconst 0, 1) := by decide +kernel
theorem dX2_arrives_2 : decode cX2_arrives 2 = .ok (.lcmp, 1) := by decide +kernel
theorem dX2_arrives_3 : decode cX2_arrives 3 = .ok (.ifCond .ne 5, 3) := by decide +kernel
theorem dX2_arrives_6 : decode cX2_arrives 6 = .ok (.iconst 0, 1) := by decide +kernel
theorem dX2_arrives_7 : decode cX2_arrives 7 = .ok (.ireturn, 1) := by decide +kernel
theorem dX2_arrives_8 : decode cX2_arrives 8 = .ok (.aload_n 2, 1) := by decide +kernel
theorem dX2_arrives_9 : decode cX2_arrives 9 = .ok (.getfield 52, 3) := by decide +kernel
theorem dX2_arrives_12 : decode cX2_arrives 12 = .ok (.i2l, 1) := by decide +kernel
theorem dX2_arrives_13 : decode cX2_arrives 13 = .ok (.aload_n 2, 1) := by decide +kernel
theorem dX2_arrives_14 : decode cX2_arrives 14 = .ok (.getfield 78, 3) := by decide +kernel
theorem dX2_arrives_17 : decode cX2_arrives 17 = .ok (.i2l, 1) := by decide +kernel
theorem dX2_arrives_18 : decode cX2_arrives 18 = .ok (.lmul, 1) := by decide +kernel
theorem dX2_arrives_19 : decode cX2_arrives 19 = .ok (.lstore 5, 2) := by decide +kernel
theorem dX2_arrives_21 : decode cX2_arrives 21 = .ok (.aload_n 2, 1) := by decide +kernel
theorem dX2_arrives_22 : decode cX2_arrives 22 = .ok (.invokevirtual 31, 3) := by decide +kernel
theorem dX2_arrives_25 : decode cX2_arrives 25 = .ok (.i2l, 1) := by decide +kernel
theorem dX2_arrives_26 : decode cX2_arrives 26 = .ok (.lload 5, 2) := by decide +kernel
theorem dX2_arrives_28 : decode cX2_arrives 28 = .ok (.aload_n 0, 1) := by decide +kernel
theorem dX2_arrives_29 : decode cX2_arrives 29 = .ok (.getfield 21, 3) := by decide +kernel
theorem dX2_arrives_32 : decode cX2_arrives 32 = .ok (.getfield 81, 3) := by decide +kernel
theorem dX2_arrives_35 : decode cX2_arrives 35 = .ok (.lneg, 1) := by decide +kernel
theorem dX2_arrives_36 : decode cX2_arrives 36 = .ok (.lmul, 1) := by decide +kernel
theorem dX2_arrives_37 : decode cX2_arrives 37 = .ok (.lload_n 3, 1) := by decide +kernel
theorem dX2_arrives_38 : decode cX2_arrives 38 = .ok (.ldiv, 1) := by decide +kernel
theorem dX2_arrives_39 : decode cX2_arrives 39 = .ok (.ladd, 1) := by decide +kernel
theorem dX2_arrives_40 : decode cX2_arrives 40 = .ok (.lstore 7, 2) := by decide +kernel
theorem dX2_arrives_42 : decode cX2_arrives 42 = .ok (.aload_n 2, 1) := by decide +kernel
theorem dX2_arrives_43 : decode cX2_arrives 43 = .ok (.invokevirtual 37, 3) := by decide +kernel
theorem dX2_arrives_46 : decode cX2_arrives 46 = .ok (.i2l, 1) := by decide +kernel
theorem dX2_arrives_47 : decode cX2_arrives 47 = .ok (.lload 5, 2) := by decide +kernel
theorem dX2_arrives_49 : decode cX2_arrives 49 = .ok (.aload_n 0, 1) := by decide +kernel
theorem dX2_arrives_50 : decode cX2_arrives 50 = .ok (.getfield 21, 3) := by decide +kernel
theorem dX2_arrives_53 : decode cX2_arrives 53 = .ok (.getfield 85, 3) := by decide +kernel
theorem dX2_arrives_56 : decode cX2_arrives 56 = .ok (.lmul, 1) := by decide +kernel
theorem dX2_arrives_57 : decode cX2_arrives 57 = .ok (.lload_n 3, 1) := by decide +kernel
theorem dX2_arrives_58 : decode cX2_arrives 58 = .ok (.ldiv, 1) := by decide +kernel
theorem dX2_arrives_59 : decode cX2_arrives 59 = .ok (.ladd, 1) := by decide +kernel
theorem dX2_arrives_60 : decode cX2_arrives 60 = .ok (.lstore 9, 2) := by decide +kernel
theorem dX2_arrives_62 : decode cX2_arrives 62 = .ok (.aload_n 0, 1) := by decide +kernel
theorem dX2_arrives_63 : decode cX2_arrives 63 = .ok (.getfield 12, 3) := by decide +kernel
theorem dX2_arrives_66 : decode cX2_arrives 66 = .ok (.aload_n 1, 1) := by decide +kernel
theorem dX2_arrives_67 : decode cX2_arrives 67 = .ok (.lload 7, 2) := by decide +kernel
theorem dX2_arrives_69 : decode cX2_arrives 69 = .ok (.lload 9, 2) := by decide +kernel
theorem dX2_arrives_71 : decode cX2_arrives 71 = .ok (.invokevirtual 88, 3) := by decide +kernel
theorem dX2_arrives_74 : decode cX2_arrives 74 = .ok (.ifCond .eq 35, 3) := by decide +kernel
theorem dX2_arrives_77 : decode cX2_arrives 77 = .ok (.aload_n 0, 1) := by decide +kernel
theorem dX2_arrives_78 : decode cX2_arrives 78 = .ok (.getfield 12, 3) := by decide +kernel
theorem dX2_arrives_81 : decode cX2_arrives 81 = .ok (.getfield 92, 3) := by decide +kernel
theorem dX2_arrives_84 : decode cX2_arrives 84 = .ok (.aload_n 2, 1) := by decide +kernel
theorem dX2_arrives_85 : decode cX2_arrives 85 = .ok (.invokevirtual 31, 3) := by decide +kernel
theorem dX2_arrives_88 : decode cX2_arrives 88 = .ok (.if_icmp .ne 17, 3) := by decide +kernel
theorem dX2_arrives_91 : decode cX2_arrives 91 = .ok (.aload_n 0, 1) := by decide +kernel
theorem dX2_arrives_92 : decode cX2_arrives 92 = .ok (.getfield 12, 3) := by decide +kernel
theorem dX2_arrives_95 : decode cX2_arrives 95 = .ok (.getfield 95, 3) := by decide +kernel
theorem dX2_arrives_98 : decode cX2_arrives 98 = .ok (.aload_n 2, 1) := by decide +kernel
theorem dX2_arrives_99 : decode cX2_arrives 99 = .ok (.invokevirtual 37, 3) := by decide +kernel
theorem dX2_arrives_102 : decode cX2_arrives 102 = .ok (.if_icmp .eq 7, 3) := by decide +kernel
theorem dX2_arrives_105 : decode cX2_arrives 105 = .ok (.iconst 1, 1) := by decide +kernel
theorem dX2_arrives_106 : decode cX2_arrives 106 = .ok (.goto 4, 3) := by decide +kernel
theorem dX2_arrives_109 : decode cX2_arrives 109 = .ok (.iconst 0, 1) := by decide +kernel
theorem dX2_arrives_110 : decode cX2_arrives 110 = .ok (.ireturn, 1) := by decide +kernel
theorem dX2_land_0 : decode cX2_land 0 = .ok (.aload_n 0, 1) := by decide +kernel
theorem dX2_land_1 : decode cX2_land 1 = .ok (.getfield 12, 3) := by decide +kernel
theorem dX2_land_4 : decode cX2_land 4 = .ok (.getfield 98, 3) := by decide +kernel
theorem dX2_land_7 : decode cX2_land 7 = .ok (.astore_n 3, 1) := by decide +kernel
theorem dX2_land_8 : decode cX2_land 8 = .ok (.aload_n 0, 1) := by decide +kernel
theorem dX2_land_9 : decode cX2_land 9 = .ok (.getfield 12, 3) := by decide +kernel
theorem dX2_land_12 : decode cX2_land 12 = .ok (.getfield 92, 3) := by decide +kernel
theorem dX2_land_15 : decode cX2_land 15 = .ok (.aload_n 1, 1) := by decide +kernel
theorem dX2_land_16 : decode cX2_land 16 = .ok (.invokevirtual 31, 3) := by decide +kernel
theorem dX2_land_19 : decode cX2_land 19 = .ok (.isub, 1) := by decide +kernel
theorem dX2_land_20 : decode cX2_land 20 = .ok (.i2l, 1) := by decide +kernel
theorem dX2_land_21 : decode cX2_land 21 = .ok (.lstore 4, 2) := by decide +kernel
theorem dX2_land_23 : decode cX2_land 23 = .ok (.aload_n 0, 1) := by decide +kernel
theorem dX2_land_24 : decode cX2_land 24 = .ok (.getfield 12, 3) := by decide +kernel
theorem dX2_land_27 : decode cX2_land 27 = .ok (.getfield 95, 3) := by decide +kernel
theorem dX2_land_30 : decode cX2_land 30 = .ok (.aload_n 1, 1) := by decide +kernel
theorem dX2_land_31 : decode cX2_land 31 = .ok (.invokevirtual 37, 3) := by decide +kernel
theorem dX2_land_34 : decode cX2_land 34 = .ok (.isub, 1) := by decide +kernel
theorem dX2_land_35 : decode cX2_land 35 = .ok (.i2l, 1) := by decide +kernel
theorem dX2_land_36 : decode cX2_land 36 = .ok (.lstore 6, 2) := by decide +kernel
theorem dX2_land_38 : decode cX2_land 38 = .ok (.iconst 0, 1) := by decide +kernel
theorem dX2_land_39 : decode cX2_land 39 = .ok (.istore 8, 2) := by decide +kernel
theorem dX2_land_41 : decode cX2_land 41 = .ok (.aload_n 3, 1) := by decide +kernel
theorem dX2_land_42 : decode cX2_land 42 = .ok (.getfield 85, 3) := by decide +kernel
theorem dX2_land_45 : decode cX2_land 45 = .ok (.lload 6, 2) := by decide +kernel
theorem dX2_land_47 : decode cX2_land 47 = .ok (.lmul, 1) := by decide +kernel
theorem dX2_land_48 : decode cX2_land 48 = .ok (.aload_n 3, 1) := by decide +kernel
theorem dX2_land_49 : decode cX2_land 49 = .ok (.getfield 81, 3) := by decide +kernel
theorem dX2_land_52 : decode cX2_land 52 = .ok (.lload 4, 2) := by decide +kernel
theorem dX2_land_54 : decode cX2_land 54 = .ok (.lmul, 1) := by decide +kernel
theorem dX2_land_55 : decode cX2_land 55 = .ok (.lsub, 1) := by decide +kernel
theorem dX2_land_56 : decode cX2_land 56 = .ok (.aload_n 1, 1) := by decide +kernel
theorem dX2_land_57 : decode cX2_land 57 = .ok (.getfield 78, 3) := by decide +kernel
theorem dX2_land_60 : decode cX2_land 60 = .ok (.i2l, 1) := by decide +kernel
theorem dX2_land_61 : decode cX2_land 61 = .ok (.lmul, 1) := by decide +kernel
theorem dX2_land_62 : decode cX2_land 62 = .ok (.lconst 0, 1) := by decide +kernel
theorem dX2_land_63 : decode cX2_land 63 = .ok (.lcmp, 1) := by decide +kernel
theorem dX2_land_64 : decode cX2_land 64 = .ok (.ifCond .ge 18, 3) := by decide +kernel
theorem dX2_land_67 : decode cX2_land 67 = .ok (.aload_n 1, 1) := by decide +kernel
theorem dX2_land_68 : decode cX2_land 68 = .ok (.aload_n 1, 1) := by decide +kernel
theorem dX2_land_69 : decode cX2_land 69 = .ok (.getfield 78, 3) := by decide +kernel
theorem dX2_land_72 : decode cX2_land 72 = .ok (.ineg, 1) := by decide +kernel
theorem dX2_land_73 : decode cX2_land 73 = .ok (.putfield 78, 3) := by decide +kernel
theorem dX2_land_76 : decode cX2_land 76 = .ok (.iconst 2, 1) := by decide +kernel
theorem dX2_land_77 : decode cX2_land 77 = .ok (.istore 8, 2) := by decide +kernel
theorem dX2_land_79 : decode cX2_land 79 = .ok (.goto 23, 3) := by decide +kernel
theorem dX2_land_82 : decode cX2_land 82 = .ok (.aload_n 0, 1) := by decide +kernel
theorem dX2_land_83 : decode cX2_land 83 = .ok (.getfield 21, 3) := by decide +kernel
theorem dX2_land_86 : decode cX2_land 86 = .ok (.getfield 81, 3) := by decide +kernel
theorem dX2_land_89 : decode cX2_land 89 = .ok (.aload_n 3, 1) := by decide +kernel
theorem dX2_land_90 : decode cX2_land 90 = .ok (.getfield 81, 3) := by decide +kernel
theorem dX2_land_93 : decode cX2_land 93 = .ok (.lmul, 1) := by decide +kernel
theorem dX2_land_94 : decode cX2_land 94 = .ok (.lconst 0, 1) := by decide +kernel
theorem dX2_land_95 : decode cX2_land 95 = .ok (.lcmp, 1) := by decide +kernel
theorem dX2_land_96 : decode cX2_land 96 = .ok (.ifCond .ge 6, 3) := by decide +kernel
theorem dX2_land_99 : decode cX2_land 99 = .ok (.iconst 1, 1) := by decide +kernel
theorem dX2_land_100 : decode cX2_land 100 = .ok (.istore 8, 2) := by decide +kernel
theorem dX2_land_102 : decode cX2_land 102 = .ok (.aload_n 1, 1) := by decide +kernel
theorem dX2_land_103 : decode cX2_land 103 = .ok (.aload_n 0, 1) := by decide +kernel
theorem dX2_land_104 : decode cX2_land 104 = .ok (.getfield 12, 3) := by decide +kernel
theorem dX2_land_107 : decode cX2_land 107 = .ok (.iload 8, 2) := by decide +kernel
theorem dX2_land_109 : decode cX2_land 109 = .ok (.invokevirtual 101, 3) := by decide +kernel
theorem dX2_land_112 : decode cX2_land 112 = .ok (.aload_n 0, 1) := by decide +kernel
theorem dX2_land_113 : decode cX2_land 113 = .ok (.getfield 12, 3) := by decide +kernel
theorem dX2_land_116 : decode cX2_land 116 = .ok (.getfield 105, 3) := by decide +kernel
theorem dX2_land_119 : decode cX2_land 119 = .ok (.iconst 2, 1) := by decide +kernel
theorem dX2_land_120 : decode cX2_land 120 = .ok (.if_icmp .gt 20, 3) := by decide +kernel
theorem dX2_land_123 : decode cX2_land 123 = .ok (.aload_n 1, 1) := by decide +kernel
theorem dX2_land_124 : decode cX2_land 124 = .ok (.aload_n 1, 1) := by decide +kernel
theorem dX2_land_125 : decode cX2_land 125 = .ok (.getfield 52, 3) := by decide +kernel
theorem dX2_land_128 : decode cX2_land 128 = .ok (.iconst 2, 1) := by decide +kernel
theorem dX2_land_129 : decode cX2_land 129 = .ok (.imul, 1) := by decide +kernel
theorem dX2_land_130 : decode cX2_land 130 = .ok (.iload_n 2, 1) := by decide +kernel
theorem dX2_land_131 : decode cX2_land 131 = .ok (.invokestatic 108, 3) := by decide +kernel
theorem dX2_land_134 : decode cX2_land 134 = .ok (.putfield 52, 3) := by decide +kernel
theorem dX2_land_137 : decode cX2_land 137 = .ok (.goto 28, 3) := by decide +kernel
theorem dX2_land_140 : decode cX2_land 140 = .ok (.aload_n 0, 1) := by decide +kernel
theorem dX2_land_141 : decode cX2_land 141 = .ok (.getfield 12, 3) := by decide +kernel
theorem dX2_land_144 : decode cX2_land 144 = .ok (.getfield 105, 3) := by decide +kernel
theorem dX2_land_147 : decode cX2_land 147 = .ok (.iconst 5, 1) := by decide +kernel
theorem dX2_land_148 : decode cX2_land 148 = .ok (.if_icmp .lt 17, 3) := by decide +kernel
theorem dX2_land_151 : decode cX2_land 151 = .ok (.aload_n 1, 1) := by decide +kernel
theorem dX2_land_152 : decode cX2_land 152 = .ok (.aload_n 1, 1) := by decide +kernel
theorem dX2_land_153 : decode cX2_land 153 = .ok (.getfield 52, 3) := by decide +kernel
theorem dX2_land_156 : decode cX2_land 156 = .ok (.iconst 2, 1) := by decide +kernel
theorem dX2_land_157 : decode cX2_land 157 = .ok (.idiv, 1) := by decide +kernel
theorem dX2_land_158 : decode cX2_land 158 = .ok (.iconst 1, 1) := by decide +kernel
theorem dX2_land_159 : decode cX2_land 159 = .ok (.invokestatic 114, 3) := by decide +kernel
theorem dX2_land_162 : decode cX2_land 162 = .ok (.putfield 52, 3) := by decide +kernel
theorem dX2_land_165 : decode cX2_land 165 = .ok (.return_, 1) := by decide +kernel
theorem dX2_leavesCrossing_0 : decode cX2_leavesCrossing 0 = .ok (.aload_n 2, 1) := by decide +kernel
theorem dX2_leavesCrossing_1 : decode cX2_leavesCrossing 1 = .ok (.iload_n 3, 1) := by decide +kernel
theorem dX2_leavesCrossing_2 : decode cX2_leavesCrossing 2 = .ok (.invokevirtual 117, 3) := by decide +kernel
theorem dX2_leavesCrossing_5 : decode cX2_leavesCrossing 5 = .ok (.i2l, 1) := by decide +kernel
theorem dX2_leavesCrossing_6 : decode cX2_leavesCrossing 6 = .ok (.lstore 5, 2) := by decide +kernel
theorem dX2_leavesCrossing_8 : decode cX2_leavesCrossing 8 = .ok (.aload_n 2, 1) := by decide +kernel
theorem dX2_leavesCrossing_9 : decode cX2_leavesCrossing 9 = .ok (.iload_n 3, 1) := by decide +kernel
theorem dX2_leavesCrossing_10 : decode cX2_leavesCrossing 10 = .ok (.invokevirtual 120, 3) := by decide +kernel
theorem dX2_leavesCrossing_13 : decode cX2_leavesCrossing 13 = .ok (.i2l, 1) := by decide +kernel
theorem dX2_leavesCrossing_14 : decode cX2_leavesCrossing 14 = .ok (.lstore 7, 2) := by decide +kernel
theorem dX2_leavesCrossing_16 : decode cX2_leavesCrossing 16 = .ok (.lload 5, 2) := by decide +kernel
theorem dX2_leavesCrossing_18 : decode cX2_leavesCrossing 18 = .ok (.lload 5, 2) := by decide +kernel
theorem dX2_leavesCrossing_20 : decode cX2_leavesCrossing 20 = .ok (.lmul, 1) := by decide +kernel
theorem dX2_leavesCrossing_21 : decode cX2_leavesCrossing 21 = .ok (.lload 7, 2) := by decide +kernel
theorem dX2_leavesCrossing_23 : decode cX2_leavesCrossing 23 = .ok (.lload 7, 2) := by decide +kernel
theorem dX2_leavesCrossing_25 : decode cX2_leavesCrossing 25 = .ok (.lmul, 1) := by decide +kernel
theorem dX2_leavesCrossing_26 : decode cX2_leavesCrossing 26 = .ok (.ladd, 1) := by decide +kernel
theorem dX2_leavesCrossing_27 : decode cX2_leavesCrossing 27 = .ok (.invokestatic 48, 3) := by decide +kernel
theorem dX2_leavesCrossing_30 : decode cX2_leavesCrossing 30 = .ok (.lstore 9, 2) := by decide +kernel
theorem dX2_leavesCrossing_32 : decode cX2_leavesCrossing 32 = .ok (.lload 9, 2) := by decide +kernel
theorem dX2_leavesCrossing_34 : decode cX2_leavesCrossing 34 = .ok (.lconst 0, 1) := by decide +kernel
theorem dX2_leavesCrossing_35 : decode cX2_leavesCrossing 35 = .ok (.lcmp, 1) := by decide +kernel
theorem dX2_leavesCrossing_36 : decode cX2_leavesCrossing 36 = .ok (.ifCond .eq 11, 3) := by decide +kernel
theorem dX2_leavesCrossing_39 : decode cX2_leavesCrossing 39 = .ok (.aload_n 2, 1) := by decide +kernel
theorem dX2_leavesCrossing_40 : decode cX2_leavesCrossing 40 = .ok (.iload_n 3, 1) := by decide +kernel
theorem dX2_leavesCrossing_41 : decode cX2_leavesCrossing 41 = .ok (.invokevirtual 123, 3) := by decide +kernel
theorem dX2_leavesCrossing_44 : decode cX2_leavesCrossing 44 = .ok (.ifCond .ne 5, 3) := by decide +kernel
theorem dX2_leavesCrossing_47 : decode cX2_leavesCrossing 47 = .ok (.iconst 0, 1) := by decide +kernel
theorem dX2_leavesCrossing_48 : decode cX2_leavesCrossing 48 = .ok (.ireturn, 1) := by decide +kernel
theorem dX2_leavesCrossing_49 : decode cX2_leavesCrossing 49 = .ok (.aload_n 1, 1) := by decide +kernel
theorem dX2_leavesCrossing_50 : decode cX2_leavesCrossing 50 = .ok (.getfield 60, 3) := by decide +kernel
theorem dX2_leavesCrossing_53 : decode cX2_leavesCrossing 53 = .ok (.iconst 0, 1) := by decide +kernel
theorem dX2_leavesCrossing_54 : decode cX2_leavesCrossing 54 = .ok (.invokevirtual 66, 3) := by decide +kernel
theorem dX2_leavesCrossing_57 : decode cX2_leavesCrossing 57 = .ok (.i2l, 1) := by decide +kernel
theorem dX2_leavesCrossing_58 : decode cX2_leavesCrossing 58 = .ok (.iload 4, 2) := by decide +kernel
theorem dX2_leavesCrossing_60 : decode cX2_leavesCrossing 60 = .ok (.i2l, 1) := by decide +kernel
theorem dX2_leavesCrossing_61 : decode cX2_leavesCrossing 61 = .ok (.lmul, 1) := by decide +kernel
theorem dX2_leavesCrossing_62 : decode cX2_leavesCrossing 62 = .ok (.lstore 11, 2) := by decide +kernel
theorem dX2_leavesCrossing_64 : decode cX2_leavesCrossing 64 = .ok (.aload_n 2, 1) := by decide +kernel
theorem dX2_leavesCrossing_65 : decode cX2_leavesCrossing 65 = .ok (.getfield 127, 3) := by decide +kernel
theorem dX2_leavesCrossing_68 : decode cX2_leavesCrossing 68 = .ok (.iload_n 3, 1) := by decide +kernel
theorem dX2_leavesCrossing_69 : decode cX2_leavesCrossing 69 = .ok (.iaload, 1) := by decide +kernel
theorem dX2_leavesCrossing_70 : decode cX2_leavesCrossing 70 = .ok (.i2l, 1) := by decide +kernel
theorem dX2_leavesCrossing_71 : decode cX2_leavesCrossing 71 = .ok (.lload 11, 2) := by decide +kernel
theorem dX2_leavesCrossing_73 : decode cX2_leavesCrossing 73 = .ok (.lload 7, 2) := by decide +kernel
theorem dX2_leavesCrossing_75 : decode cX2_leavesCrossing 75 = .ok (.lneg, 1) := by decide +kernel
theorem dX2_leavesCrossing_76 : decode cX2_leavesCrossing 76 = .ok (.lmul, 1) := by decide +kernel
theorem dX2_leavesCrossing_77 : decode cX2_leavesCrossing 77 = .ok (.lload 9, 2) := by decide +kernel
theorem dX2_leavesCrossing_79 : decode cX2_leavesCrossing 79 = .ok (.ldiv, 1) := by decide +kernel
theorem dX2_leavesCrossing_80 : decode cX2_leavesCrossing 80 = .ok (.ladd, 1) := by decide +kernel
theorem dX2_leavesCrossing_81 : decode cX2_leavesCrossing 81 = .ok (.lstore 13, 2) := by decide +kernel
theorem dX2_leavesCrossing_83 : decode cX2_leavesCrossing 83 = .ok (.aload_n 2, 1) := by decide +kernel
theorem dX2_leavesCrossing_84 : decode cX2_leavesCrossing 84 = .ok (.getfield 131, 3) := by decide +kernel
theorem dX2_leavesCrossing_87 : decode cX2_leavesCrossing 87 = .ok (.iload_n 3, 1) := by decide +kernel
theorem dX2_leavesCrossing_88 : decode cX2_leavesCrossing 88 = .ok (.iaload, 1) := by decide +kernel
theorem dX2_leavesCrossing_89 : decode cX2_leavesCrossing 89 = .ok (.i2l, 1) := by decide +kernel
theorem dX2_leavesCrossing_90 : decode cX2_leavesCrossing 90 = .ok (.lload 11, 2) := by decide +kernel
theorem dX2_leavesCrossing_92 : decode cX2_leavesCrossing 92 = .ok (.lload 5, 2) := by decide +kernel
theorem dX2_leavesCrossing_94 : decode cX2_leavesCrossing 94 = .ok (.lmul, 1) := by decide +kernel
theorem dX2_leavesCrossing_95 : decode cX2_leavesCrossing 95 = .ok (.lload 9, 2) := by decide +kernel
theorem dX2_leavesCrossing_97 : decode cX2_leavesCrossing 97 = .ok (.ldiv, 1) := by decide +kernel
theorem dX2_leavesCrossing_98 : decode cX2_leavesCrossing 98 = .ok (.ladd, 1) := by decide +kernel
theorem dX2_leavesCrossing_99 : decode cX2_leavesCrossing 99 = .ok (.lstore 15, 2) := by decide +kernel
theorem dX2_leavesCrossing_101 : decode cX2_leavesCrossing 101 = .ok (.aload_n 0, 1) := by decide +kernel
theorem dX2_leavesCrossing_102 : decode cX2_leavesCrossing 102 = .ok (.getfield 12, 3) := by decide +kernel
theorem dX2_leavesCrossing_105 : decode cX2_leavesCrossing 105 = .ok (.aload_n 1, 1) := by decide +kernel
theorem dX2_leavesCrossing_106 : decode cX2_leavesCrossing 106 = .ok (.lload 13, 2) := by decide +kernel
theorem dX2_leavesCrossing_108 : decode cX2_leavesCrossing 108 = .ok (.lload 15, 2) := by decide +kernel
theorem dX2_leavesCrossing_110 : decode cX2_leavesCrossing 110 = .ok (.invokevirtual 88, 3) := by decide +kernel
theorem dX2_leavesCrossing_113 : decode cX2_leavesCrossing 113 = .ok (.ireturn, 1) := by decide +kernel
theorem dX2_signBeside_0 : decode cX2_signBeside 0 = .ok (.aload_n 1, 1) := by decide +kernel
theorem dX2_signBeside_1 : decode cX2_signBeside 1 = .ok (.iload_n 2, 1) := by decide +kernel
theorem dX2_signBeside_2 : decode cX2_signBeside 2 = .ok (.invokevirtual 117, 3) := by decide +kernel
theorem dX2_signBeside_5 : decode cX2_signBeside 5 = .ok (.i2l, 1) := by decide +kernel
theorem dX2_signBeside_6 : decode cX2_signBeside 6 = .ok (.lstore 4, 2) := by decide +kernel
theorem dX2_signBeside_8 : decode cX2_signBeside 8 = .ok (.aload_n 1, 1) := by decide +kernel
theorem dX2_signBeside_9 : decode cX2_signBeside 9 = .ok (.iload_n 2, 1) := by decide +kernel
theorem dX2_signBeside_10 : decode cX2_signBeside 10 = .ok (.invokevirtual 120, 3) := by decide +kernel
theorem dX2_signBeside_13 : decode cX2_signBeside 13 = .ok (.i2l, 1) := by decide +kernel
theorem dX2_signBeside_14 : decode cX2_signBeside 14 = .ok (.lstore 6, 2) := by decide +kernel
theorem dX2_signBeside_16 : decode cX2_signBeside 16 = .ok (.aload_n 0, 1) := by decide +kernel
theorem dX2_signBeside_17 : decode cX2_signBeside 17 = .ok (.getfield 12, 3) := by decide +kernel
theorem dX2_signBeside_20 : decode cX2_signBeside 20 = .ok (.getfield 98, 3) := by decide +kernel
theorem dX2_signBeside_23 : decode cX2_signBeside 23 = .ok (.getfield 85, 3) := by decide +kernel
theorem dX2_signBeside_26 : decode cX2_signBeside 26 = .ok (.lload 4, 2) := by decide +kernel
theorem dX2_signBeside_28 : decode cX2_signBeside 28 = .ok (.lmul, 1) := by decide +kernel
theorem dX2_signBeside_29 : decode cX2_signBeside 29 = .ok (.aload_n 0, 1) := by decide +kernel
theorem dX2_signBeside_30 : decode cX2_signBeside 30 = .ok (.getfield 12, 3) := by decide +kernel
theorem dX2_signBeside_33 : decode cX2_signBeside 33 = .ok (.getfield 98, 3) := by decide +kernel
theorem dX2_signBeside_36 : decode cX2_signBeside 36 = .ok (.getfield 81, 3) := by decide +kernel
theorem dX2_signBeside_39 : decode cX2_signBeside 39 = .ok (.lload 6, 2) := by decide +kernel
theorem dX2_signBeside_41 : decode cX2_signBeside 41 = .ok (.lmul, 1) := by decide +kernel
theorem dX2_signBeside_42 : decode cX2_signBeside 42 = .ok (.ladd, 1) := by decide +kernel
theorem dX2_signBeside_43 : decode cX2_signBeside 43 = .ok (.iload_n 3, 1) := by decide +kernel
theorem dX2_signBeside_44 : decode cX2_signBeside 44 = .ok (.i2l, 1) := by decide +kernel
theorem dX2_signBeside_45 : decode cX2_signBeside 45 = .ok (.lmul, 1) := by decide +kernel
theorem dX2_signBeside_46 : decode cX2_signBeside 46 = .ok (.lconst 0, 1) := by decide +kernel
theorem dX2_signBeside_47 : decode cX2_signBeside 47 = .ok (.lcmp, 1) := by decide +kernel
theorem dX2_signBeside_48 : decode cX2_signBeside 48 = .ok (.ifCond .lt 7, 3) := by decide +kernel
theorem dX2_signBeside_51 : decode cX2_signBeside 51 = .ok (.iconst 1, 1) := by decide +kernel
theorem dX2_signBeside_52 : decode cX2_signBeside 52 = .ok (.goto 4, 3) := by decide +kernel
theorem dX2_signBeside_55 : decode cX2_signBeside 55 = .ok (.iconst (-1), 1) := by decide +kernel
theorem dX2_signBeside_56 : decode cX2_signBeside 56 = .ok (.ireturn, 1) := by decide +kernel
theorem dX3_init_0 : decode cX3_init 0 = .ok (.aload_n 0, 1) := by decide +kernel
theorem dX3_init_1 : decode cX3_init 1 = .ok (.invokespecial 3, 3) := by decide +kernel
theorem dX3_init_4 : decode cX3_init 4 = .ok (.aload_n 0, 1) := by decide +kernel
theorem dX3_init_5 : decode cX3_init 5 = .ok (.new 9, 3) := by decide +kernel
theorem dX3_init_8 : decode cX3_init 8 = .ok (.dup, 1) := by decide +kernel
theorem dX3_init_9 : decode cX3_init 9 = .ok (.invokespecial 11, 3) := by decide +kernel
theorem dX3_init_12 : decode cX3_init 12 = .ok (.putfield 12, 3) := by decide +kernel
theorem dX3_init_15 : decode cX3_init 15 = .ok (.return_, 1) := by decide +kernel
theorem dX3_scan_0 : decode cX3_scan 0 = .ok (.aload_n 0, 1) := by decide +kernel
theorem dX3_scan_1 : decode cX3_scan 1 = .ok (.getfield 12, 3) := by decide +kernel
theorem dX3_scan_4 : decode cX3_scan 4 = .ok (.invokevirtual 18, 3) := by decide +kernel
theorem dX3_scan_7 : decode cX3_scan 7 = .ok (.aload_n 0, 1) := by decide +kernel
theorem dX3_scan_8 : decode cX3_scan 8 = .ok (.iconst 0, 1) := by decide +kernel
theorem dX3_scan_9 : decode cX3_scan 9 = .ok (.putfield 21, 3) := by decide +kernel
theorem dX3_scan_12 : decode cX3_scan 12 = .ok (.aload_n 0, 1) := by decide +kernel
theorem dX3_scan_13 : decode cX3_scan 13 = .ok (.iconst 0, 1) := by decide +kernel
theorem dX3_scan_14 : decode cX3_scan 14 = .ok (.putfield 25, 3) := by decide +kernel
theorem dX3_scan_17 : decode cX3_scan 17 = .ok (.aload_n 0, 1) := by decide +kernel
theorem dX3_scan_18 : decode cX3_scan 18 = .ok (.iconst 1, 1) := by decide +kernel
theorem dX3_scan_19 : decode cX3_scan 19 = .ok (.invokevirtual 28, 3) := by decide +kernel
theorem dX3_scan_22 : decode cX3_scan 22 = .ok (.iconst 0, 1) := by decide +kernel
theorem dX3_scan_23 : decode cX3_scan 23 = .ok (.istore_n 2, 1) := by decide +kernel
theorem dX3_scan_24 : decode cX3_scan 24 = .ok (.iload_n 2, 1) := by decide +kernel
theorem dX3_scan_25 : decode cX3_scan 25 = .ok (.aload_n 1, 1) := by decide +kernel
theorem dX3_scan_26 : decode cX3_scan 26 = .ok (.getfield 32, 3) := by decide +kernel
theorem dX3_scan_29 : decode cX3_scan 29 = .ok (.if_icmp .ge 36, 3) := by decide +kernel
theorem dX3_scan_32 : decode cX3_scan 32 = .ok (.aload_n 0, 1) := by decide +kernel
theorem dX3_scan_33 : decode cX3_scan 33 = .ok (.iload_n 2, 1) := by decide +kernel
theorem dX3_scan_34 : decode cX3_scan 34 = .ok (.putfield 37, 3) := by decide +kernel
theorem dX3_scan_37 : decode cX3_scan 37 = .ok (.aload_n 0, 1) := by decide +kernel
theorem dX3_scan_38 : decode cX3_scan 38 = .ok (.aload_n 0, 1) := by decide +kernel
theorem dX3_scan_39 : decode cX3_scan 39 = .ok (.aload_n 1, 1) := by decide +kernel
theorem dX3_scan_40 : decode cX3_scan 40 = .ok (.getfield 40, 3) := by decide +kernel
theorem dX3_scan_43 : decode cX3_scan 43 = .ok (.iload_n 2, 1) := by decide +kernel
theorem dX3_scan_44 : decode cX3_scan 44 = .ok (.iaload, 1) := by decide +kernel
theorem dX3_scan_45 : decode cX3_scan 45 = .ok (.invokevirtual 44, 3) := by decide +kernel
theorem dX3_scan_48 : decode cX3_scan 48 = .ok (.putfield 25, 3) := by decide +kernel
theorem dX3_scan_51 : decode cX3_scan 51 = .ok (.aload_n 0, 1) := by decide +kernel
theorem dX3_scan_52 : decode cX3_scan 52 = .ok (.getfield 25, 3) := by decide +kernel
theorem dX3_scan_55 : decode cX3_scan 55 = .ok (.ifCond .eq 4, 3) := by decide +kernel
theorem dX3_scan_58 : decode cX3_scan 58 = .ok (.return_, 1) := by decide +kernel
theorem dX3_scan_59 : decode cX3_scan 59 = .ok (.iinc 2 1, 3) := by decide +kernel
theorem dX3_scan_62 : decode cX3_scan 62 = .ok (.goto (-38), 3) := by decide +kernel
theorem dX3_scan_65 : decode cX3_scan 65 = .ok (.aload_n 0, 1) := by decide +kernel
theorem dX3_scan_66 : decode cX3_scan 66 = .ok (.getfield 21, 3) := by decide +kernel
theorem dX3_scan_69 : decode cX3_scan 69 = .ok (.iconst 2, 1) := by decide +kernel
theorem dX3_scan_70 : decode cX3_scan 70 = .ok (.if_icmp .ne 10, 3) := by decide +kernel
theorem dX3_scan_73 : decode cX3_scan 73 = .ok (.aload_n 0, 1) := by decide +kernel
theorem dX3_scan_74 : decode cX3_scan 74 = .ok (.invokevirtual 48, 3) := by decide +kernel
theorem dX3_scan_77 : decode cX3_scan 77 = .ok (.goto 16, 3) := by decide +kernel
theorem dX3_scan_80 : decode cX3_scan 80 = .ok (.aload_n 0, 1) := by decide +kernel
theorem dX3_scan_81 : decode cX3_scan 81 = .ok (.aload_n 1, 1) := by decide +kernel
theorem dX3_scan_82 : decode cX3_scan 82 = .ok (.getfield 32, 3) := by decide +kernel
theorem dX3_scan_85 : decode cX3_scan 85 = .ok (.putfield 37, 3) := by decide +kernel
theorem dX3_scan_88 : decode cX3_scan 88 = .ok (.aload_n 0, 1) := by decide +kernel
theorem dX3_scan_89 : decode cX3_scan 89 = .ok (.iconst 1, 1) := by decide +kernel
theorem dX3_scan_90 : decode cX3_scan 90 = .ok (.putfield 25, 3) := by decide +kernel
theorem dX3_scan_93 : decode cX3_scan 93 = .ok (.return_, 1) := by decide +kernel
theorem dX3_take_0 : decode cX3_take 0 = .ok (.iload_n 1, 1) := by decide +kernel
theorem dX3_take_1 : decode cX3_take 1 = .ok (.bipush 43, 2) := by decide +kernel
theorem dX3_take_3 : decode cX3_take 3 = .ok (.if_icmp .eq 9, 3) := by decide +kernel
theorem dX3_take_6 : decode cX3_take 6 = .ok (.iload_n 1, 1) := by decide +kernel
theorem dX3_take_7 : decode cX3_take 7 = .ok (.bipush 45, 2) := by decide +kernel
theorem dX3_take_9 : decode cX3_take 9 = .ok (.if_icmp .ne 19, 3) := by decide +kernel
theorem dX3_take_12 : decode cX3_take 12 = .ok (.aload_n 0, 1) := by decide +kernel
theorem dX3_take_13 : decode cX3_take 13 = .ok (.iload_n 1, 1) := by decide +kernel
theorem dX3_take_14 : decode cX3_take 14 = .ok (.bipush 45, 2) := by decide +kernel
theorem dX3_take_16 : decode cX3_take 16 = .ok (.if_icmp .ne 7, 3) := by decide +kernel
theorem dX3_take_19 : decode cX3_take 19 = .ok (.iconst (-1), 1) := by decide +kernel
theorem dX3_take_20 : decode cX3_take 20 = .ok (.goto 4, 3) := by decide +kernel
theorem dX3_take_23 : decode cX3_take 23 = .ok (.iconst 1, 1) := by decide +kernel
theorem dX3_take_24 : decode cX3_take 24 = .ok (.invokevirtual 51, 3) := by decide +kernel
theorem dX3_take_27 : decode cX3_take 27 = .ok (.ireturn, 1) := by decide +kernel
theorem dX3_take_28 : decode cX3_take 28 = .ok (.iload_n 1, 1) := by decide +kernel
theorem dX3_take_29 : decode cX3_take 29 = .ok (.bipush 49, 2) := by decide +kernel
theorem dX3_take_31 : decode cX3_take 31 = .ok (.if_icmp .lt 18, 3) := by decide +kernel
theorem dX3_take_34 : decode cX3_take 34 = .ok (.iload_n 1, 1) := by decide +kernel
theorem dX3_take_35 : decode cX3_take 35 = .ok (.bipush 53, 2) := by decide +kernel
theorem dX3_take_37 : decode cX3_take 37 = .ok (.if_icmp .gt 12, 3) := by decide +kernel
theorem dX3_take_40 : decode cX3_take 40 = .ok (.aload_n 0, 1) := by decide +kernel
theorem dX3_take_41 : decode cX3_take 41 = .ok (.iload_n 1, 1) := by decide +kernel
theorem dX3_take_42 : decode cX3_take 42 = .ok (.bipush 48, 2) := by decide +kernel
theorem dX3_take_44 : decode cX3_take 44 = .ok (.isub, 1) := by decide +kernel
theorem dX3_take_45 : decode cX3_take 45 = .ok (.invokevirtual 54, 3) := by decide +kernel
theorem dX3_take_48 : decode cX3_take 48 = .ok (.ireturn, 1) := by decide +kernel
theorem dX3_take_49 : decode cX3_take 49 = .ok (.iload_n 1, 1) := by decide +kernel
theorem dX3_take_50 : decode cX3_take 50 = .ok (.bipush 120, 2) := by decide +kernel
theorem dX3_take_52 : decode cX3_take 52 = .ok (.if_icmp .eq 9, 3) := by decide +kernel
theorem dX3_take_55 : decode cX3_take 55 = .ok (.iload_n 1, 1) := by decide +kernel
theorem dX3_take_56 : decode cX3_take 56 = .ok (.bipush 121, 2) := by decide +kernel
theorem dX3_take_58 : decode cX3_take 58 = .ok (.if_icmp .ne 19, 3) := by decide +kernel
theorem dX3_take_61 : decode cX3_take 61 = .ok (.aload_n 0, 1) := by decide +kernel
theorem dX3_take_62 : decode cX3_take 62 = .ok (.iload_n 1, 1) := by decide +kernel
theorem dX3_take_63 : decode cX3_take 63 = .ok (.bipush 120, 2) := by decide +kernel
theorem dX3_take_65 : decode cX3_take 65 = .ok (.if_icmp .ne 7, 3) := by decide +kernel
theorem dX3_take_68 : decode cX3_take 68 = .ok (.iconst 1, 1) := by decide +kernel
theorem dX3_take_69 : decode cX3_take 69 = .ok (.goto 4, 3) := by decide +kernel
theorem dX3_take_72 : decode cX3_take 72 = .ok (.iconst 0, 1) := by decide +kernel
theorem dX3_take_73 : decode cX3_take 73 = .ok (.invokevirtual 57, 3) := by decide +kernel
theorem dX3_take_76 : decode cX3_take 76 = .ok (.ireturn, 1) := by decide +kernel
theorem dX3_take_77 : decode cX3_take 77 = .ok (.iconst 1, 1) := by decide +kernel
theorem dX3_take_78 : decode cX3_take 78 = .ok (.ireturn, 1) := by decide +kernel
theorem dX3_takeSign_0 : decode cX3_takeSign 0 = .ok (.aload_n 0, 1) := by decide +kernel
theorem dX3_takeSign_1 : decode cX3_takeSign 1 = .ok (.getfield 21, 3) := by decide +kernel
theorem dX3_takeSign_4 : decode cX3_takeSign 4 = .ok (.iconst 1, 1) := by decide +kernel
theorem dX3_takeSign_5 : decode cX3_takeSign 5 = .ok (.if_icmp .eq 15, 3) := by decide +kernel
theorem dX3_takeSign_8 : decode cX3_takeSign 8 = .ok (.aload_n 0, 1) := by decide +kernel
theorem dX3_takeSign_9 : decode cX3_takeSign 9 = .ok (.getfield 21, 3) := by decide +kernel
theorem dX3_takeSign_12 : decode cX3_takeSign 12 = .ok (.ifCond .ne 10, 3) := by decide +kernel
theorem dX3_takeSign_15 : decode cX3_takeSign 15 = .ok (.iload_n 1, 1) := by decide +kernel
theorem dX3_takeSign_16 : decode cX3_takeSign 16 = .ok (.iconst 1, 1) := by decide +kernel
theorem dX3_takeSign_17 : decode cX3_takeSign 17 = .ok (.if_icmp .ne 5, 3) := by decide +kernel
theorem dX3_takeSign_20 : decode cX3_takeSign 20 = .ok (.iconst 1, 1) := by decide +kernel
theorem dX3_takeSign_21 : decode cX3_takeSign 21 = .ok (.ireturn, 1) := by decide +kernel
theorem dX3_takeSign_22 : decode cX3_takeSign 22 = .ok (.aload_n 0, 1) := by decide +kernel
theorem dX3_takeSign_23 : decode cX3_takeSign 23 = .ok (.getfield 21, 3) := by decide +kernel
theorem dX3_takeSign_26 : decode cX3_takeSign 26 = .ok (.iconst 2, 1) := by decide +kernel
theorem dX3_takeSign_27 : decode cX3_takeSign 27 = .ok (.if_icmp .ne 19, 3) := by decide +kernel
theorem dX3_takeSign_30 : decode cX3_takeSign 30 = .ok (.aload_n 0, 1) := by decide +kernel
theorem dX3_takeSign_31 : decode cX3_takeSign 31 = .ok (.invokevirtual 48, 3) := by decide +kernel
theorem dX3_takeSign_34 : decode cX3_takeSign 34 = .ok (.aload_n 0, 1) := by decide +kernel
theorem dX3_takeSign_35 : decode cX3_takeSign 35 = .ok (.getfield 12, 3) := by decide +kernel
theorem dX3_takeSign_38 : decode cX3_takeSign 38 = .ok (.invokevirtual 61, 3) := by decide +kernel
theorem dX3_takeSign_41 : decode cX3_takeSign 41 = .ok (.ifCond .eq 5, 3) := by decide +kernel
theorem dX3_takeSign_44 : decode cX3_takeSign 44 = .ok (.iconst 3, 1) := by decide +kernel
theorem dX3_takeSign_45 : decode cX3_takeSign 45 = .ok (.ireturn, 1) := by decide +kernel
theorem dX3_takeSign_46 : decode cX3_takeSign 46 = .ok (.aload_n 0, 1) := by decide +kernel
theorem dX3_takeSign_47 : decode cX3_takeSign 47 = .ok (.iload_n 1, 1) := by decide +kernel
theorem dX3_takeSign_48 : decode cX3_takeSign 48 = .ok (.invokevirtual 28, 3) := by decide +kernel
theorem dX3_takeSign_51 : decode cX3_takeSign 51 = .ok (.aload_n 0, 1) := by decide +kernel
theorem dX3_takeSign_52 : decode cX3_takeSign 52 = .ok (.iconst 1, 1) := by decide +kernel
theorem dX3_takeSign_53 : decode cX3_takeSign 53 = .ok (.putfield 21, 3) := by decide +kernel
theorem dX3_takeSign_56 : decode cX3_takeSign 56 = .ok (.iconst 0, 1) := by decide +kernel
theorem dX3_takeSign_57 : decode cX3_takeSign 57 = .ok (.ireturn, 1) := by decide +kernel
theorem dX3_takeDigit_0 : decode cX3_takeDigit 0 = .ok (.aload_n 0, 1) := by decide +kernel
theorem dX3_takeDigit_1 : decode cX3_takeDigit 1 = .ok (.getfield 21, 3) := by decide +kernel
theorem dX3_takeDigit_4 : decode cX3_takeDigit 4 = .ok (.iconst 2, 1) := by decide +kernel
theorem dX3_takeDigit_5 : decode cX3_takeDigit 5 = .ok (.if_icmp .ne 5, 3) := by decide +kernel
theorem dX3_takeDigit_8 : decode cX3_takeDigit 8 = .ok (.iconst 1, 1) := by decide +kernel
theorem dX3_takeDigit_9 : decode cX3_takeDigit 9 = .ok (.ireturn, 1) := by decide +kernel
theorem dX3_takeDigit_10 : decode cX3_takeDigit 10 = .ok (.aload_n 0, 1) := by decide +kernel
theorem dX3_takeDigit_11 : decode cX3_takeDigit 11 = .ok (.iload_n 1, 1) := by decide +kernel
theorem dX3_takeDigit_12 : decode cX3_takeDigit 12 = .ok (.putfield 65, 3) := by decide +kernel
theorem dX3_takeDigit_15 : decode cX3_takeDigit 15 = .ok (.aload_n 0, 1) := by decide +kernel
theorem dX3_takeDigit_16 : decode cX3_takeDigit 16 = .ok (.iconst 2, 1) := by decide +kernel
theorem dX3_takeDigit_17 : decode cX3_takeDigit 17 = .ok (.putfield 21, 3) := by decide +kernel
theorem dX3_takeDigit_20 : decode cX3_takeDigit 20 = .ok (.iconst 0, 1) := by decide +kernel
theorem dX3_takeDigit_21 : decode cX3_takeDigit 21 = .ok (.ireturn, 1) := by decide +kernel
theorem dX3_takeLetter_0 : decode cX3_takeLetter 0 = .ok (.aload_n 0, 1) := by decide +kernel
theorem dX3_takeLetter_1 : decode cX3_takeLetter 1 = .ok (.getfield 68, 3) := by decide +kernel
theorem dX3_takeLetter_4 : decode cX3_takeLetter 4 = .ok (.aload_n 0, 1) := by decide +kernel
theorem dX3_takeLetter_5 : decode cX3_takeLetter 5 = .ok (.getfield 71, 3) := by decide +kernel
theorem dX3_takeLetter_8 : decode cX3_takeLetter 8 = .ok (.iadd, 1) := by decide +kernel
theorem dX3_takeLetter_9 : decode cX3_takeLetter 9 = .ok (.iconst 3, 1) := by decide +kernel
theorem dX3_takeLetter_10 : decode cX3_takeLetter 10 = .ok (.if_icmp .lt 5, 3) := by decide +kernel
theorem dX3_takeLetter_13 : decode cX3_takeLetter 13 = .ok (.iconst 2, 1) := by decide +kernel
theorem dX3_takeLetter_14 : decode cX3_takeLetter 14 = .ok (.ireturn, 1) := by decide +kernel
theorem dX3_takeLetter_15 : decode cX3_takeLetter 15 = .ok (.iload_n 1, 1) := by decide +kernel
theorem dX3_takeLetter_16 : decode cX3_takeLetter 16 = .ok (.ifCond .eq 16, 3) := by decide +kernel
theorem dX3_takeLetter_19 : decode cX3_takeLetter 19 = .ok (.aload_n 0, 1) := by decide +kernel
theorem dX3_takeLetter_20 : decode cX3_takeLetter 20 = .ok (.dup, 1) := by decide +kernel
theorem dX3_takeLetter_21 : decode cX3_takeLetter 21 = .ok (.getfield 68, 3) := by decide +kernel
theorem dX3_takeLetter_24 : decode cX3_takeLetter 24 = .ok (.iconst 1, 1) := by decide +kernel
theorem dX3_takeLetter_25 : decode cX3_takeLetter 25 = .ok (.iadd, 1) := by decide +kernel
theorem dX3_takeLetter_26 : decode cX3_takeLetter 26 = .ok (.putfield 68, 3) := by decide +kernel
theorem dX3_takeLetter_29 : decode cX3_takeLetter 29 = .ok (.goto 13, 3) := by decide +kernel
theorem dX3_takeLetter_32 : decode cX3_takeLetter 32 = .ok (.aload_n 0, 1) := by decide +kernel
theorem dX3_takeLetter_33 : decode cX3_takeLetter 33 = .ok (.dup, 1) := by decide +kernel
theorem dX3_takeLetter_34 : decode cX3_takeLetter 34 = .ok (.getfield 71, 3) := by decide +kernel
theorem dX3_takeLetter_37 : decode cX3_takeLetter 37 = .ok (.iconst 1, 1) := by decide +kernel
theorem dX3_takeLetter_38 : decode cX3_takeLetter 38 = .ok (.iadd, 1) := by decide +kernel
theorem dX3_takeLetter_39 : decode cX3_takeLetter 39 = .ok (.putfield 71, 3) := by decide +kernel
theorem dX3_takeLetter_42 : decode cX3_takeLetter 42 = .ok (.aload_n 0, 1) := by decide +kernel
theorem dX3_takeLetter_43 : decode cX3_takeLetter 43 = .ok (.iconst 2, 1) := by decide +kernel
theorem dX3_takeLetter_44 : decode cX3_takeLetter 44 = .ok (.putfield 21, 3) := by decide +kernel
theorem dX3_takeLetter_47 : decode cX3_takeLetter 47 = .ok (.iconst 0, 1) := by decide +kernel
theorem dX3_takeLetter_48 : decode cX3_takeLetter 48 = .ok (.ireturn, 1) := by decide +kernel
theorem dX3_openTerm_0 : decode cX3_openTerm 0 = .ok (.aload_n 0, 1) := by decide +kernel
theorem dX3_openTerm_1 : decode cX3_openTerm 1 = .ok (.iload_n 1, 1) := by decide +kernel
theorem dX3_openTerm_2 : decode cX3_openTerm 2 = .ok (.putfield 74, 3) := by decide +kernel
theorem dX3_openTerm_5 : decode cX3_openTerm 5 = .ok (.aload_n 0, 1) := by decide +kernel
theorem dX3_openTerm_6 : decode cX3_openTerm 6 = .ok (.iconst 1, 1) := by decide +kernel
theorem dX3_openTerm_7 : decode cX3_openTerm 7 = .ok (.putfield 65, 3) := by decide +kernel
theorem dX3_openTerm_10 : decode cX3_openTerm 10 = .ok (.aload_n 0, 1) := by decide +kernel
theorem dX3_openTerm_11 : decode cX3_openTerm 11 = .ok (.iconst 0, 1) := by decide +kernel
theorem dX3_openTerm_12 : decode cX3_openTerm 12 = .ok (.putfield 68, 3) := by decide +kernel
theorem dX3_openTerm_15 : decode cX3_openTerm 15 = .ok (.aload_n 0, 1) := by decide +kernel
theorem dX3_openTerm_16 : decode cX3_openTerm 16 = .ok (.iconst 0, 1) := by decide +kernel
theorem dX3_openTerm_17 : decode cX3_openTerm 17 = .ok (.putfield 71, 3) := by decide +kernel
theorem dX3_openTerm_20 : decode cX3_openTerm 20 = .ok (.return_, 1) := by decide +kernel
theorem dX3_closeTerm_0 : decode cX3_closeTerm 0 = .ok (.aload_n 0, 1) := by decide +kernel
theorem dX3_closeTerm_1 : decode cX3_closeTerm 1 = .ok (.getfield 12, 3) := by decide +kernel
theorem dX3_closeTerm_4 : decode cX3_closeTerm 4 = .ok (.aload_n 0, 1) := by decide +kernel
theorem dX3_closeTerm_5 : decode cX3_closeTerm 5 = .ok (.getfield 74, 3) := by decide +kernel
theorem dX3_closeTerm_8 : decode cX3_closeTerm 8 = .ok (.aload_n 0, 1) := by decide +kernel
theorem dX3_closeTerm_9 : decode cX3_closeTerm 9 = .ok (.getfield 65, 3) := by decide +kernel
theorem dX3_closeTerm_12 : decode cX3_closeTerm 12 = .ok (.imul, 1) := by decide +kernel
theorem dX3_closeTerm_13 : decode cX3_closeTerm 13 = .ok (.aload_n 0, 1) := by decide +kernel
theorem dX3_closeTerm_14 : decode cX3_closeTerm 14 = .ok (.getfield 68, 3) := by decide +kernel
theorem dX3_closeTerm_17 : decode cX3_closeTerm 17 = .ok (.aload_n 0, 1) := by decide +kernel
theorem dX3_closeTerm_18 : decode cX3_closeTerm 18 = .ok (.getfield 71, 3) := by decide +kernel
theorem dX3_closeTerm_21 : decode cX3_closeTerm 21 = .ok (.invokevirtual 77, 3) := by decide +kernel
theorem dX3_closeTerm_24 : decode cX3_closeTerm 24 = .ok (.return_, 1) := by decide +kernel
theorem dX4_init_0 : decode cX4_init 0 = .ok (.aload_n 0, 1) := by decide +kernel
theorem dX4_init_1 : decode cX4_init 1 = .ok (.invokespecial 1, 3) := by decide +kernel
theorem dX4_init_4 : decode cX4_init 4 = .ok (.aload_n 0, 1) := by decide +kernel
theorem dX4_init_5 : decode cX4_init 5 = .ok (.iconst 3, 1) := by decide +kernel
theorem dX4_init_6 : decode cX4_init 6 = .ok (.newarray .int, 2) := by decide +kernel
theorem dX4_init_8 : decode cX4_init 8 = .ok (.dup, 1) := by decide +kernel
theorem dX4_init_9 : decode cX4_init 9 = .ok (.iconst 0, 1) := by decide +kernel
theorem dX4_init_10 : decode cX4_init 10 = .ok (.bipush 16, 2) := by decide +kernel
theorem dX4_init_12 : decode cX4_init 12 = .ok (.iastore, 1) := by decide +kernel
theorem dX4_init_13 : decode cX4_init 13 = .ok (.dup, 1) := by decide +kernel
theorem dX4_init_14 : decode cX4_init 14 = .ok (.iconst 1, 1) := by decide +kernel
theorem dX4_init_15 : decode cX4_init 15 = .ok (.bipush 64, 2) := by decide +kernel
theorem dX4_init_17 : decode cX4_init 17 = .ok (.iastore, 1) := by decide +kernel
theorem dX4_init_18 : decode cX4_init 18 = .ok (.dup, 1) := by decide +kernel
theorem dX4_init_19 : decode cX4_init 19 = .ok (.iconst 2, 1) := by decide +kernel
theorem dX4_init_20 : decode cX4_init 20 = .ok (.bipush 8, 2) := by decide +kernel
theorem dX4_init_22 : decode cX4_init 22 = .ok (.iastore, 1) := by decide +kernel
theorem dX4_init_23 : decode cX4_init 23 = .ok (.putfield 7, 3) := by decide +kernel
theorem dX4_init_26 : decode cX4_init 26 = .ok (.return_, 1) := by decide +kernel
theorem dX4_allows_0 : decode cX4_allows 0 = .ok (.iload_n 0, 1) := by decide +kernel
theorem dX4_allows_1 : decode cX4_allows 1 = .ok (.ifCond .lt 43, 3) := by decide +kernel
theorem dX4_allows_4 : decode cX4_allows 4 = .ok (.iload_n 0, 1) := by decide +kernel
theorem dX4_allows_5 : decode cX4_allows 5 = .ok (.getstatic 13, 3) := by decide +kernel
theorem dX4_allows_8 : decode cX4_allows 8 = .ok (.arraylength, 1) := by decide +kernel
theorem dX4_allows_9 : decode cX4_allows 9 = .ok (.if_icmp .ge 35, 3) := by decide +kernel
theorem dX4_allows_12 : decode cX4_allows 12 = .ok (.iload_n 0, 1) := by decide +kernel
theorem dX4_allows_13 : decode cX4_allows 13 = .ok (.getstatic 16, 3) := by decide +kernel
theorem dX4_allows_16 : decode cX4_allows 16 = .ok (.arraylength, 1) := by decide +kernel
theorem dX4_allows_17 : decode cX4_allows 17 = .ok (.if_icmp .ge 27, 3) := by decide +kernel
theorem dX4_allows_20 : decode cX4_allows 20 = .ok (.iload_n 1, 1) := by decide +kernel
theorem dX4_allows_21 : decode cX4_allows 21 = .ok (.i2l, 1) := by decide +kernel
theorem dX4_allows_22 : decode cX4_allows 22 = .ok (.getstatic 13, 3) := by decide +kernel
theorem dX4_allows_25 : decode cX4_allows 25 = .ok (.iload_n 0, 1) := by decide +kernel
theorem dX4_allows_26 : decode cX4_allows 26 = .ok (.iaload, 1) := by decide +kernel
theorem dX4_allows_27 : decode cX4_allows 27 = .ok (.i2l, 1) := by decide +kernel
theorem dX4_allows_28 : decode cX4_allows 28 = .ok (.getstatic 16, 3) := by decide +kernel
theorem dX4_allows_31 : decode cX4_allows 31 = .ok (.iload_n 0, 1) := by decide +kernel
theorem dX4_allows_32 : decode cX4_allows 32 = .ok (.iaload, 1) := by decide +kernel
theorem dX4_allows_33 : decode cX4_allows 33 = .ok (.i2l, 1) := by decide +kernel
theorem dX4_allows_34 : decode cX4_allows 34 = .ok (.invokestatic 19, 3) := by decide +kernel
theorem dX4_allows_37 : decode cX4_allows 37 = .ok (.ifCond .eq 7, 3) := by decide +kernel
theorem dX4_allows_40 : decode cX4_allows 40 = .ok (.iconst 1, 1) := by decide +kernel
theorem dX4_allows_41 : decode cX4_allows 41 = .ok (.goto 4, 3) := by decide +kernel
theorem dX4_allows_44 : decode cX4_allows 44 = .ok (.iconst 0, 1) := by decide +kernel
theorem dX4_allows_45 : decode cX4_allows 45 = .ok (.ireturn, 1) := by decide +kernel
theorem dX4_at_0 : decode cX4_at 0 = .ok (.iload_n 1, 1) := by decide +kernel
theorem dX4_at_1 : decode cX4_at 1 = .ok (.ifCond .lt 21, 3) := by decide +kernel
theorem dX4_at_4 : decode cX4_at 4 = .ok (.iload_n 1, 1) := by decide +kernel
theorem dX4_at_5 : decode cX4_at 5 = .ok (.aload_n 0, 1) := by decide +kernel
theorem dX4_at_6 : decode cX4_at 6 = .ok (.getfield 7, 3) := by decide +kernel
theorem dX4_at_9 : decode cX4_at 9 = .ok (.arraylength, 1) := by decide +kernel
theorem dX4_at_10 : decode cX4_at 10 = .ok (.if_icmp .ge 12, 3) := by decide +kernel
theorem dX4_at_13 : decode cX4_at 13 = .ok (.aload_n 0, 1) := by decide +kernel
theorem dX4_at_14 : decode cX4_at 14 = .ok (.getfield 7, 3) := by decide +kernel
theorem dX4_at_17 : decode cX4_at 17 = .ok (.iload_n 1, 1) := by decide +kernel
theorem dX4_at_18 : decode cX4_at 18 = .ok (.iaload, 1) := by decide +kernel
theorem dX4_at_19 : decode cX4_at 19 = .ok (.goto 4, 3) := by decide +kernel
theorem dX4_at_22 : decode cX4_at 22 = .ok (.iconst 0, 1) := by decide +kernel
theorem dX4_at_23 : decode cX4_at 23 = .ok (.ireturn, 1) := by decide +kernel
theorem dX4_replace_0 : decode cX4_replace 0 = .ok (.iload_n 1, 1) := by decide +kernel
theorem dX4_replace_1 : decode cX4_replace 1 = .ok (.iload_n 2, 1) := by decide +kernel
theorem dX4_replace_2 : decode cX4_replace 2 = .ok (.invokestatic 25, 3) := by decide +kernel
theorem dX4_replace_5 : decode cX4_replace 5 = .ok (.ifCond .eq 12, 3) := by decide +kernel
theorem dX4_replace_8 : decode cX4_replace 8 = .ok (.iload_n 1, 1) := by decide +kernel
theorem dX4_replace_9 : decode cX4_replace 9 = .ok (.aload_n 0, 1) := by decide +kernel
theorem dX4_replace_10 : decode cX4_replace 10 = .ok (.getfield 7, 3) := by decide +kernel
theorem dX4_replace_13 : decode cX4_replace 13 = .ok (.arraylength, 1) := by decide +kernel
theorem dX4_replace_14 : decode cX4_replace 14 = .ok (.if_icmp .lt 5, 3) := by decide +kernel
theorem dX4_replace_17 : decode cX4_replace 17 = .ok (.iconst 0, 1) := by decide +kernel
theorem dX4_replace_18 : decode cX4_replace 18 = .ok (.ireturn, 1) := by decide +kernel
theorem dX4_replace_19 : decode cX4_replace 19 = .ok (.aload_n 0, 1) := by decide +kernel
theorem dX4_replace_20 : decode cX4_replace 20 = .ok (.getfield 7, 3) := by decide +kernel
theorem dX4_replace_23 : decode cX4_replace 23 = .ok (.iload_n 1, 1) := by decide +kernel
theorem dX4_replace_24 : decode cX4_replace 24 = .ok (.iaload, 1) := by decide +kernel
theorem dX4_replace_25 : decode cX4_replace 25 = .ok (.istore_n 3, 1) := by decide +kernel
theorem dX4_replace_26 : decode cX4_replace 26 = .ok (.aload_n 0, 1) := by decide +kernel
theorem dX4_replace_27 : decode cX4_replace 27 = .ok (.getfield 7, 3) := by decide +kernel
theorem dX4_replace_30 : decode cX4_replace 30 = .ok (.iload_n 1, 1) := by decide +kernel
theorem dX4_replace_31 : decode cX4_replace 31 = .ok (.iload_n 2, 1) := by decide +kernel
theorem dX4_replace_32 : decode cX4_replace 32 = .ok (.iastore, 1) := by decide +kernel
theorem dX4_replace_33 : decode cX4_replace 33 = .ok (.iload_n 3, 1) := by decide +kernel
theorem dX4_replace_34 : decode cX4_replace 34 = .ok (.ireturn, 1) := by decide +kernel
theorem dX4_copyFrom_0 : decode cX4_copyFrom 0 = .ok (.iconst 0, 1) := by decide +kernel
theorem dX4_copyFrom_1 : decode cX4_copyFrom 1 = .ok (.istore_n 2, 1) := by decide +kernel
theorem dX4_copyFrom_2 : decode cX4_copyFrom 2 = .ok (.iload_n 2, 1) := by decide +kernel
theorem dX4_copyFrom_3 : decode cX4_copyFrom 3 = .ok (.aload_n 0, 1) := by decide +kernel
theorem dX4_copyFrom_4 : decode cX4_copyFrom 4 = .ok (.getfield 7, 3) := by decide +kernel
theorem dX4_copyFrom_7 : decode cX4_copyFrom 7 = .ok (.arraylength, 1) := by decide +kernel
theorem dX4_copyFrom_8 : decode cX4_copyFrom 8 = .ok (.if_icmp .ge 30, 3) := by decide +kernel
theorem dX4_copyFrom_11 : decode cX4_copyFrom 11 = .ok (.iload_n 2, 1) := by decide +kernel
theorem dX4_copyFrom_12 : decode cX4_copyFrom 12 = .ok (.aload_n 1, 1) := by decide +kernel
theorem dX4_copyFrom_13 : decode cX4_copyFrom 13 = .ok (.getfield 7, 3) := by decide +kernel
theorem dX4_copyFrom_16 : decode cX4_copyFrom 16 = .ok (.arraylength, 1) := by decide +kernel
theorem dX4_copyFrom_17 : decode cX4_copyFrom 17 = .ok (.if_icmp .ge 21, 3) := by decide +kernel
theorem dX4_copyFrom_20 : decode cX4_copyFrom 20 = .ok (.aload_n 0, 1) := by decide +kernel
theorem dX4_copyFrom_21 : decode cX4_copyFrom 21 = .ok (.getfield 7, 3) := by decide +kernel
theorem dX4_copyFrom_24 : decode cX4_copyFrom 24 = .ok (.iload_n 2, 1) := by decide +kernel
theorem dX4_copyFrom_25 : decode cX4_copyFrom 25 = .ok (.aload_n 1, 1) := by decide +kernel
theorem dX4_copyFrom_26 : decode cX4_copyFrom 26 = .ok (.getfield 7, 3) := by decide +kernel
theorem dX4_copyFrom_29 : decode cX4_copyFrom 29 = .ok (.iload_n 2, 1) := by decide +kernel
theorem dX4_copyFrom_30 : decode cX4_copyFrom 30 = .ok (.iaload, 1) := by decide +kernel
theorem dX4_copyFrom_31 : decode cX4_copyFrom 31 = .ok (.iastore, 1) := by decide +kernel
theorem dX4_copyFrom_32 : decode cX4_copyFrom 32 = .ok (.iinc 2 1, 3) := by decide +kernel
theorem dX4_copyFrom_35 : decode cX4_copyFrom 35 = .ok (.goto (-33), 3) := by decide +kernel
theorem dX4_copyFrom_38 : decode cX4_copyFrom 38 = .ok (.return_, 1) := by decide +kernel
theorem dX5_init_0 : decode cX5_init 0 = .ok (.aload_n 0, 1) := by decide +kernel
theorem dX5_init_1 : decode cX5_init 1 = .ok (.invokespecial 1, 3) := by decide +kernel
theorem dX5_init_4 : decode cX5_init 4 = .ok (.return_, 1) := by decide +kernel
theorem dX5_look_0 : decode cX5_look 0 = .ok (.aload_n 0, 1) := by decide +kernel
theorem dX5_look_1 : decode cX5_look 1 = .ok (.lconst 0, 1) := by decide +kernel
theorem dX5_look_2 : decode cX5_look 2 = .ok (.putfield 7, 3) := by decide +kernel
theorem dX5_look_5 : decode cX5_look 5 = .ok (.aload_n 0, 1) := by decide +kernel
theorem dX5_look_6 : decode cX5_look 6 = .ok (.lconst 0, 1) := by decide +kernel
theorem dX5_look_7 : decode cX5_look 7 = .ok (.putfield 13, 3) := by decide +kernel
theorem dX5_look_10 : decode cX5_look 10 = .ok (.aload_n 0, 1) := by decide +kernel
theorem dX5_look_11 : decode cX5_look 11 = .ok (.lconst 0, 1) := by decide +kernel
theorem dX5_look_12 : decode cX5_look 12 = .ok (.putfield 16, 3) := by decide +kernel
theorem dX5_look_15 : decode cX5_look 15 = .ok (.iconst 0, 1) := by decide +kernel
theorem dX5_look_16 : decode cX5_look 16 = .ok (.istore 6, 2) := by decide +kernel
theorem dX5_look_18 : decode cX5_look 18 = .ok (.iload 6, 2) := by decide +kernel
theorem dX5_look_20 : decode cX5_look 20 = .ok (.aload_n 1, 1) := by decide +kernel
theorem dX5_look_21 : decode cX5_look 21 = .ok (.getfield 19, 3) := by decide +kernel
theorem dX5_look_24 : decode cX5_look 24 = .ok (.if_icmp .ge 146, 3) := by decide +kernel
theorem dX5_look_27 : decode cX5_look 27 = .ok (.aload_n 1, 1) := by decide +kernel
theorem dX5_look_28 : decode cX5_look 28 = .ok (.getfield 25, 3) := by decide +kernel
theorem dX5_look_31 : decode cX5_look 31 = .ok (.iload 6, 2) := by decide +kernel
theorem dX5_look_33 : decode cX5_look 33 = .ok (.iaload, 1) := by decide +kernel
theorem dX5_look_34 : decode cX5_look 34 = .ok (.istore 7, 2) := by decide +kernel
theorem dX5_look_36 : decode cX5_look 36 = .ok (.aload_n 1, 1) := by decide +kernel
theorem dX5_look_37 : decode cX5_look 37 = .ok (.getfield 29, 3) := by decide +kernel
theorem dX5_look_40 : decode cX5_look 40 = .ok (.iload 6, 2) := by decide +kernel
theorem dX5_look_42 : decode cX5_look 42 = .ok (.iaload, 1) := by decide +kernel
theorem dX5_look_43 : decode cX5_look 43 = .ok (.istore 8, 2) := by decide +kernel
theorem dX5_look_45 : decode cX5_look 45 = .ok (.aload_n 1, 1) := by decide +kernel
theorem dX5_look_46 : decode cX5_look 46 = .ok (.getfield 32, 3) := by decide +kernel
theorem dX5_look_49 : decode cX5_look 49 = .ok (.iload 6, 2) := by decide +kernel
theorem dX5_look_51 : decode cX5_look 51 = .ok (.iaload, 1) := by decide +kernel
theorem dX5_look_52 : decode cX5_look 52 = .ok (.i2l, 1) := by decide +kernel
theorem dX5_look_53 : decode cX5_look 53 = .ok (.aload_n 1, 1) := by decide +kernel
theorem dX5_look_54 : decode cX5_look 54 = .ok (.iload 6, 2) := by decide +kernel
theorem dX5_look_56 : decode cX5_look 56 = .ok (.invokevirtual 35, 3) := by decide +kernel
theorem dX5_look_59 : decode cX5_look 59 = .ok (.lmul, 1) := by decide +kernel
theorem dX5_look_60 : decode cX5_look 60 = .ok (.lstore 9, 2) := by decide +kernel
theorem dX5_look_62 : decode cX5_look 62 = .ok (.aload_n 0, 1) := by decide +kernel
theorem dX5_look_63 : decode cX5_look 63 = .ok (.dup, 1) := by decide +kernel
theorem dX5_look_64 : decode cX5_look 64 = .ok (.getfield 7, 3) := by decide +kernel
theorem dX5_look_67 : decode cX5_look 67 = .ok (.lload 9, 2) := by decide +kernel
theorem dX5_look_69 : decode cX5_look 69 = .ok (.lload_n 2, 1) := by decide +kernel
theorem dX5_look_70 : decode cX5_look 70 = .ok (.iload 7, 2) := by decide +kernel
theorem dX5_look_72 : decode cX5_look 72 = .ok (.invokestatic 39, 3) := by decide +kernel
theorem dX5_look_75 : decode cX5_look 75 = .ok (.lmul, 1) := by decide +kernel
theorem dX5_look_76 : decode cX5_look 76 = .ok (.lload 4, 2) := by decide +kernel
theorem dX5_look_78 : decode cX5_look 78 = .ok (.iload 8, 2) := by decide +kernel
theorem dX5_look_80 : decode cX5_look 80 = .ok (.invokestatic 39, 3) := by decide +kernel
theorem dX5_look_83 : decode cX5_look 83 = .ok (.lmul, 1) := by decide +kernel
theorem dX5_look_84 : decode cX5_look 84 = .ok (.ladd, 1) := by decide +kernel
theorem dX5_look_85 : decode cX5_look 85 = .ok (.putfield 7, 3) := by decide +kernel
theorem dX5_look_88 : decode cX5_look 88 = .ok (.iload 7, 2) := by decide +kernel
theorem dX5_look_90 : decode cX5_look 90 = .ok (.iconst 1, 1) := by decide +kernel
theorem dX5_look_91 : decode cX5_look 91 = .ok (.if_icmp .lt 35, 3) := by decide +kernel
theorem dX5_look_94 : decode cX5_look 94 = .ok (.aload_n 0, 1) := by decide +kernel
theorem dX5_look_95 : decode cX5_look 95 = .ok (.dup, 1) := by decide +kernel
theorem dX5_look_96 : decode cX5_look 96 = .ok (.getfield 13, 3) := by decide +kernel
theorem dX5_look_99 : decode cX5_look 99 = .ok (.lload 9, 2) := by decide +kernel
theorem dX5_look_101 : decode cX5_look 101 = .ok (.iload 7, 2) := by decide +kernel
theorem dX5_look_103 : decode cX5_look 103 = .ok (.i2l, 1) := by decide +kernel
theorem dX5_look_104 : decode cX5_look 104 = .ok (.lmul, 1) := by decide +kernel
theorem dX5_look_105 : decode cX5_look 105 = .ok (.lload_n 2, 1) := by decide +kernel
theorem dX5_look_106 : decode cX5_look 106 = .ok (.iload 7, 2) := by decide +kernel
theorem dX5_look_108 : decode cX5_look 108 = .ok (.iconst 1, 1) := by decide +kernel
theorem dX5_look_109 : decode cX5_look 109 = .ok (.isub, 1) := by decide +kernel
theorem dX5_look_110 : decode cX5_look 110 = .ok (.invokestatic 39, 3) := by decide +kernel
theorem dX5_look_113 : decode cX5_look 113 = .ok (.lmul, 1) := by decide +kernel
theorem dX5_look_114 : decode cX5_look 114 = .ok (.lload 4, 2) := by decide +kernel
theorem dX5_look_116 : decode cX5_look 116 = .ok (.iload 8, 2) := by decide +kernel
theorem dX5_look_118 : decode cX5_look 118 = .ok (.invokestatic 39, 3) := by decide +kernel
theorem dX5_look_121 : decode cX5_look 121 = .ok (.lmul, 1) := by decide +kernel
theorem dX5_look_122 : decode cX5_look 122 = .ok (.ladd, 1) := by decide +kernel
theorem dX5_look_123 : decode cX5_look 123 = .ok (.putfield 13, 3) := by decide +kernel
theorem dX5_look_126 : decode cX5_look 126 = .ok (.iload 8, 2) := by decide +kernel
theorem dX5_look_128 : decode cX5_look 128 = .ok (.iconst 1, 1) := by decide +kernel
theorem dX5_look_129 : decode cX5_look 129 = .ok (.if_icmp .lt 35, 3) := by decide +kernel
theorem dX5_look_132 : decode cX5_look 132 = .ok (.aload_n 0, 1) := by decide +kernel
theorem dX5_look_133 : decode cX5_look 133 = .ok (.dup, 1) := by decide +kernel
theorem dX5_look_134 : decode cX5_look 134 = .ok (.getfield 16, 3) := by decide +kernel
theorem dX5_look_137 : decode cX5_look 137 = .ok (.lload 9, 2) := by decide +kernel
theorem dX5_look_139 : decode cX5_look 139 = .ok (.iload 8, 2) := by decide +kernel
theorem dX5_look_141 : decode cX5_look 141 = .ok (.i2l, 1) := by decide +kernel
theorem dX5_look_142 : decode cX5_look 142 = .ok (.lmul, 1) := by decide +kernel
theorem dX5_look_143 : decode cX5_look 143 = .ok (.lload_n 2, 1) := by decide +kernel
theorem dX5_look_144 : decode cX5_look 144 = .ok (.iload 7, 2) := by decide +kernel
theorem dX5_look_146 : decode cX5_look 146 = .ok (.invokestatic 39, 3) := by decide +kernel
theorem dX5_look_149 : decode cX5_look 149 = .ok (.lmul, 1) := by decide +kernel
theorem dX5_look_150 : decode cX5_look 150 = .ok (.lload 4, 2) := by decide +kernel
theorem dX5_look_152 : decode cX5_look 152 = .ok (.iload 8, 2) := by decide +kernel
theorem dX5_look_154 : decode cX5_look 154 = .ok (.iconst 1, 1) := by decide +kernel
theorem dX5_look_155 : decode cX5_look 155 = .ok (.isub, 1) := by decide +kernel
theorem dX5_look_156 : decode cX5_look 156 = .ok (.invokestatic 39, 3) := by decide +kernel
theorem dX5_look_159 : decode cX5_look 159 = .ok (.lmul, 1) := by decide +kernel
theorem dX5_look_160 : decode cX5_look 160 = .ok (.ladd, 1) := by decide +kernel
theorem dX5_look_161 : decode cX5_look 161 = .ok (.putfield 16, 3) := by decide +kernel
theorem dX5_look_164 : decode cX5_look 164 = .ok (.iinc 6 1, 3) := by decide +kernel
theorem dX5_look_167 : decode cX5_look 167 = .ok (.goto (-149), 3) := by decide +kernel
theorem dX5_look_170 : decode cX5_look 170 = .ok (.return_, 1) := by decide +kernel
theorem dX5_steepness_0 : decode cX5_steepness 0 = .ok (.aload_n 0, 1) := by decide +kernel
theorem dX5_steepness_1 : decode cX5_steepness 1 = .ok (.getfield 13, 3) := by decide +kernel
theorem dX5_steepness_4 : decode cX5_steepness 4 = .ok (.aload_n 0, 1) := by decide +kernel
theorem dX5_steepness_5 : decode cX5_steepness 5 = .ok (.getfield 13, 3) := by decide +kernel
theorem dX5_steepness_8 : decode cX5_steepness 8 = .ok (.lmul, 1) := by decide +kernel
theorem dX5_steepness_9 : decode cX5_steepness 9 = .ok (.aload_n 0, 1) := by decide +kernel
theorem dX5_steepness_10 : decode cX5_steepness 10 = .ok (.getfield 16, 3) := by decide +kernel
theorem dX5_steepness_13 : decode cX5_steepness 13 = .ok (.aload_n 0, 1) := by decide +kernel
theorem dX5_steepness_14 : decode cX5_steepness 14 = .ok (.getfield 16, 3) := by decide +kernel
theorem dX5_steepness_17 : decode cX5_steepness 17 = .ok (.lmul, 1) := by decide +kernel
theorem dX5_steepness_18 : decode cX5_steepness 18 = .ok (.ladd, 1) := by decide +kernel
theorem dX5_steepness_19 : decode cX5_steepness 19 = .ok (.lreturn, 1) := by decide +kernel
theorem dX6_init_0 : decode cX6_init 0 = .ok (.aload_n 0, 1) := by decide +kernel
theorem dX6_init_1 : decode cX6_init 1 = .ok (.invokespecial 1, 3) := by decide +kernel
theorem dX6_init_4 : decode cX6_init 4 = .ok (.aload_n 0, 1) := by decide +kernel
theorem dX6_init_5 : decode cX6_init 5 = .ok (.new 7, 3) := by decide +kernel
theorem dX6_init_8 : decode cX6_init 8 = .ok (.dup, 1) := by decide +kernel
theorem dX6_init_9 : decode cX6_init 9 = .ok (.invokespecial 9, 3) := by decide +kernel
theorem dX6_init_12 : decode cX6_init 12 = .ok (.putfield 10, 3) := by decide +kernel
theorem dX6_init_15 : decode cX6_init 15 = .ok (.aload_n 0, 1) := by decide +kernel
theorem dX6_init_16 : decode cX6_init 16 = .ok (.new 16, 3) := by decide +kernel
theorem dX6_init_19 : decode cX6_init 19 = .ok (.dup, 1) := by decide +kernel
theorem dX6_init_20 : decode cX6_init 20 = .ok (.invokespecial 18, 3) := by decide +kernel
theorem dX6_init_23 : decode cX6_init 23 = .ok (.putfield 19, 3) := by decide +kernel
theorem dX6_init_26 : decode cX6_init 26 = .ok (.aload_n 0, 1) := by decide +kernel
theorem dX6_init_27 : decode cX6_init 27 = .ok (.new 23, 3) := by decide +kernel
theorem dX6_init_30 : decode cX6_init 30 = .ok (.dup, 1) := by decide +kernel
theorem dX6_init_31 : decode cX6_init 31 = .ok (.invokespecial 25, 3) := by decide +kernel
theorem dX6_init_34 : decode cX6_init 34 = .ok (.putfield 26, 3) := by decide +kernel
theorem dX6_init_37 : decode cX6_init 37 = .ok (.return_, 1) := by decide +kernel
theorem dX6_copyFrom_0 : decode cX6_copyFrom 0 = .ok (.aload_n 0, 1) := by decide +kernel
theorem dX6_copyFrom_1 : decode cX6_copyFrom 1 = .ok (.getfield 10, 3) := by decide +kernel
theorem dX6_copyFrom_4 : decode cX6_copyFrom 4 = .ok (.aload_n 1, 1) := by decide +kernel
theorem dX6_copyFrom_5 : decode cX6_copyFrom 5 = .ok (.getfield 10, 3) := by decide +kernel
theorem dX6_copyFrom_8 : decode cX6_copyFrom 8 = .ok (.invokevirtual 30, 3) := by decide +kernel
theorem dX6_copyFrom_11 : decode cX6_copyFrom 11 = .ok (.aload_n 0, 1) := by decide +kernel
theorem dX6_copyFrom_12 : decode cX6_copyFrom 12 = .ok (.getfield 19, 3) := by decide +kernel
theorem dX6_copyFrom_15 : decode cX6_copyFrom 15 = .ok (.aload_n 1, 1) := by decide +kernel
theorem dX6_copyFrom_16 : decode cX6_copyFrom 16 = .ok (.getfield 19, 3) := by decide +kernel
theorem dX6_copyFrom_19 : decode cX6_copyFrom 19 = .ok (.invokevirtual 34, 3) := by decide +kernel
theorem dX6_copyFrom_22 : decode cX6_copyFrom 22 = .ok (.aload_n 0, 1) := by decide +kernel
theorem dX6_copyFrom_23 : decode cX6_copyFrom 23 = .ok (.getfield 26, 3) := by decide +kernel
theorem dX6_copyFrom_26 : decode cX6_copyFrom 26 = .ok (.aload_n 1, 1) := by decide +kernel
theorem dX6_copyFrom_27 : decode cX6_copyFrom 27 = .ok (.getfield 26, 3) := by decide +kernel
theorem dX6_copyFrom_30 : decode cX6_copyFrom 30 = .ok (.invokevirtual 37, 3) := by decide +kernel
theorem dX6_copyFrom_33 : decode cX6_copyFrom 33 = .ok (.return_, 1) := by decide +kernel
theorem dX7_init_0 : decode cX7_init 0 = .ok (.aload_n 0, 1) := by decide +kernel
theorem dX7_init_1 : decode cX7_init 1 = .ok (.invokespecial 3, 3) := by decide +kernel
theorem dX7_init_4 : decode cX7_init 4 = .ok (.aload_n 0, 1) := by decide +kernel
theorem dX7_init_5 : decode cX7_init 5 = .ok (.bipush 6, 2) := by decide +kernel
theorem dX7_init_7 : decode cX7_init 7 = .ok (.newarray .int, 2) := by decide +kernel
theorem dX7_init_9 : decode cX7_init 9 = .ok (.putfield 9, 3) := by decide +kernel
theorem dX7_init_12 : decode cX7_init 12 = .ok (.aload_n 0, 1) := by decide +kernel
theorem dX7_init_13 : decode cX7_init 13 = .ok (.bipush 6, 2) := by decide +kernel
theorem dX7_init_15 : decode cX7_init 15 = .ok (.newarray .int, 2) := by decide +kernel
theorem dX7_init_17 : decode cX7_init 17 = .ok (.putfield 15, 3) := by decide +kernel
theorem dX7_init_20 : decode cX7_init 20 = .ok (.aload_n 0, 1) := by decide +kernel
theorem dX7_init_21 : decode cX7_init 21 = .ok (.bipush 6, 2) := by decide +kernel
theorem dX7_init_23 : decode cX7_init 23 = .ok (.newarray .int, 2) := by decide +kernel
theorem dX7_init_25 : decode cX7_init 25 = .ok (.putfield 18, 3) := by decide +kernel
theorem dX7_init_28 : decode cX7_init 28 = .ok (.return_, 1) := by decide +kernel
theorem dX7_has_0 : decode cX7_has 0 = .ok (.iload_n 1, 1) := by decide +kernel
theorem dX7_has_1 : decode cX7_has 1 = .ok (.ifCond .lt 15, 3) := by decide +kernel
theorem dX7_has_4 : decode cX7_has 4 = .ok (.iload_n 1, 1) := by decide +kernel
theorem dX7_has_5 : decode cX7_has 5 = .ok (.aload_n 0, 1) := by decide +kernel
theorem dX7_has_6 : decode cX7_has 6 = .ok (.getfield 21, 3) := by decide +kernel
theorem dX7_has_9 : decode cX7_has 9 = .ok (.if_icmp .ge 7, 3) := by decide +kernel
theorem dX7_has_12 : decode cX7_has 12 = .ok (.iconst 1, 1) := by decide +kernel
theorem dX7_has_13 : decode cX7_has 13 = .ok (.goto 4, 3) := by decide +kernel
theorem dX7_has_16 : decode cX7_has 16 = .ok (.iconst 0, 1) := by decide +kernel
theorem dX7_has_17 : decode cX7_has 17 = .ok (.ireturn, 1) := by decide +kernel
theorem dX7_isFull_0 : decode cX7_isFull 0 = .ok (.aload_n 0, 1) := by decide +kernel
theorem dX7_isFull_1 : decode cX7_isFull 1 = .ok (.getfield 21, 3) := by decide +kernel
theorem dX7_isFull_4 : decode cX7_isFull 4 = .ok (.bipush 6, 2) := by decide +kernel
theorem dX7_isFull_6 : decode cX7_isFull 6 = .ok (.if_icmp .lt 7, 3) := by decide +kernel
theorem dX7_isFull_9 : decode cX7_isFull 9 = .ok (.iconst 1, 1) := by decide +kernel
theorem dX7_isFull_10 : decode cX7_isFull 10 = .ok (.goto 4, 3) := by decide +kernel
theorem dX7_isFull_13 : decode cX7_isFull 13 = .ok (.iconst 0, 1) := by decide +kernel
theorem dX7_isFull_14 : decode cX7_isFull 14 = .ok (.ireturn, 1) := by decide +kernel
theorem dX7_add_0 : decode cX7_add 0 = .ok (.aload_n 0, 1) := by decide +kernel
theorem dX7_add_1 : decode cX7_add 1 = .ok (.invokevirtual 25, 3) := by decide +kernel
theorem dX7_add_4 : decode cX7_add 4 = .ok (.ifCond .eq 4, 3) := by decide +kernel
theorem dX7_add_7 : decode cX7_add 7 = .ok (.return_, 1) := by decide +kernel
theorem dX7_add_8 : decode cX7_add 8 = .ok (.aload_n 0, 1) := by decide +kernel
theorem dX7_add_9 : decode cX7_add 9 = .ok (.getfield 9, 3) := by decide +kernel
theorem dX7_add_12 : decode cX7_add 12 = .ok (.aload_n 0, 1) := by decide +kernel
theorem dX7_add_13 : decode cX7_add 13 = .ok (.getfield 21, 3) := by decide +kernel
theorem dX7_add_16 : decode cX7_add 16 = .ok (.iload_n 1, 1) := by decide +kernel
theorem dX7_add_17 : decode cX7_add 17 = .ok (.iastore, 1) := by decide +kernel
theorem dX7_add_18 : decode cX7_add 18 = .ok (.aload_n 0, 1) := by decide +kernel
theorem dX7_add_19 : decode cX7_add 19 = .ok (.getfield 15, 3) := by decide +kernel
theorem dX7_add_22 : decode cX7_add 22 = .ok (.aload_n 0, 1) := by decide +kernel
theorem dX7_add_23 : decode cX7_add 23 = .ok (.getfield 21, 3) := by decide +kernel
theorem dX7_add_26 : decode cX7_add 26 = .ok (.iload_n 2, 1) := by decide +kernel
theorem dX7_add_27 : decode cX7_add 27 = .ok (.iastore, 1) := by decide +kernel
theorem dX7_add_28 : decode cX7_add 28 = .ok (.aload_n 0, 1) := by decide +kernel
theorem dX7_add_29 : decode cX7_add 29 = .ok (.getfield 18, 3) := by decide +kernel
theorem dX7_add_32 : decode cX7_add 32 = .ok (.aload_n 0, 1) := by decide +kernel
theorem dX7_add_33 : decode cX7_add 33 = .ok (.getfield 21, 3) := by decide +kernel
theorem dX7_add_36 : decode cX7_add 36 = .ok (.iload_n 3, 1) := by decide +kernel
theorem dX7_add_37 : decode cX7_add 37 = .ok (.iastore, 1) := by decide +kernel
theorem dX7_add_38 : decode cX7_add 38 = .ok (.aload_n 0, 1) := by decide +kernel
theorem dX7_add_39 : decode cX7_add 39 = .ok (.dup, 1) := by decide +kernel
theorem dX7_add_40 : decode cX7_add 40 = .ok (.getfield 21, 3) := by decide +kernel
theorem dX7_add_43 : decode cX7_add 43 = .ok (.iconst 1, 1) := by decide +kernel
theorem dX7_add_44 : decode cX7_add 44 = .ok (.iadd, 1) := by decide +kernel
theorem dX7_add_45 : decode cX7_add 45 = .ok (.putfield 21, 3) := by decide +kernel
theorem dX7_add_48 : decode cX7_add 48 = .ok (.return_, 1) := by decide +kernel
theorem dX7_remove_0 : decode cX7_remove 0 = .ok (.aload_n 0, 1) := by decide +kernel
theorem dX7_remove_1 : decode cX7_remove 1 = .ok (.iload_n 1, 1) := by decide +kernel
theorem dX7_remove_2 : decode cX7_remove 2 = .ok (.invokevirtual 29, 3) := by decide +kernel
theorem dX7_remove_5 : decode cX7_remove 5 = .ok (.ifCond .ne 5, 3) := by decide +kernel
theorem dX7_remove_8 : decode cX7_remove 8 = .ok (.iconst 0, 1) := by decide +kernel
theorem dX7_remove_9 : decode cX7_remove 9 = .ok (.ireturn, 1) := by decide +kernel
theorem dX7_remove_10 : decode cX7_remove 10 = .ok (.aload_n 0, 1) := by decide +kernel
theorem dX7_remove_11 : decode cX7_remove 11 = .ok (.getfield 9, 3) := by decide +kernel
theorem dX7_remove_14 : decode cX7_remove 14 = .ok (.iload_n 1, 1) := by decide +kernel
theorem dX7_remove_15 : decode cX7_remove 15 = .ok (.iaload, 1) := by decide +kernel
theorem dX7_remove_16 : decode cX7_remove 16 = .ok (.istore_n 2, 1) := by decide +kernel
theorem dX7_remove_17 : decode cX7_remove 17 = .ok (.aload_n 0, 1) := by decide +kernel
theorem dX7_remove_18 : decode cX7_remove 18 = .ok (.dup, 1) := by decide +kernel
theorem dX7_remove_19 : decode cX7_remove 19 = .ok (.getfield 21, 3) := by decide +kernel
theorem dX7_remove_22 : decode cX7_remove 22 = .ok (.iconst 1, 1) := by decide +kernel
theorem dX7_remove_23 : decode cX7_remove 23 = .ok (.isub, 1) := by decide +kernel
theorem dX7_remove_24 : decode cX7_remove 24 = .ok (.putfield 21, 3) := by decide +kernel
theorem dX7_remove_27 : decode cX7_remove 27 = .ok (.iload_n 1, 1) := by decide +kernel
theorem dX7_remove_28 : decode cX7_remove 28 = .ok (.istore_n 3, 1) := by decide +kernel
theorem dX7_remove_29 : decode cX7_remove 29 = .ok (.iload_n 3, 1) := by decide +kernel
theorem dX7_remove_30 : decode cX7_remove 30 = .ok (.aload_n 0, 1) := by decide +kernel
theorem dX7_remove_31 : decode cX7_remove 31 = .ok (.getfield 21, 3) := by decide +kernel
theorem dX7_remove_34 : decode cX7_remove 34 = .ok (.if_icmp .ge 51, 3) := by decide +kernel
theorem dX7_remove_37 : decode cX7_remove 37 = .ok (.aload_n 0, 1) := by decide +kernel
theorem dX7_remove_38 : decode cX7_remove 38 = .ok (.getfield 9, 3) := by decide +kernel
theorem dX7_remove_41 : decode cX7_remove 41 = .ok (.iload_n 3, 1) := by decide +kernel
theorem dX7_remove_42 : decode cX7_remove 42 = .ok (.aload_n 0, 1) := by decide +kernel
theorem dX7_remove_43 : decode cX7_remove 43 = .ok (.getfield 9, 3) := by decide +kernel
theorem dX7_remove_46 : decode cX7_remove 46 = .ok (.iload_n 3, 1) := by decide +kernel
theorem dX7_remove_47 : decode cX7_remove 47 = .ok (.iconst 1, 1) := by decide +kernel
theorem dX7_remove_48 : decode cX7_remove 48 = .ok (.iadd, 1) := by decide +kernel
theorem dX7_remove_49 : decode cX7_remove 49 = .ok (.iaload, 1) := by decide +kernel
theorem dX7_remove_50 : decode cX7_remove 50 = .ok (.iastore, 1) := by decide +kernel
theorem dX7_remove_51 : decode cX7_remove 51 = .ok (.aload_n 0, 1) := by decide +kernel
theorem dX7_remove_52 : decode cX7_remove 52 = .ok (.getfield 15, 3) := by decide +kernel
theorem dX7_remove_55 : decode cX7_remove 55 = .ok (.iload_n 3, 1) := by decide +kernel
theorem dX7_remove_56 : decode cX7_remove 56 = .ok (.aload_n 0, 1) := by decide +kernel
theorem dX7_remove_57 : decode cX7_remove 57 = .ok (.getfield 15, 3) := by decide +kernel
theorem dX7_remove_60 : decode cX7_remove 60 = .ok (.iload_n 3, 1) := by decide +kernel
theorem dX7_remove_61 : decode cX7_remove 61 = .ok (.iconst 1, 1) := by decide +kernel
theorem dX7_remove_62 : decode cX7_remove 62 = .ok (.iadd, 1) := by decide +kernel
theorem dX7_remove_63 : decode cX7_remove 63 = .ok (.iaload, 1) := by decide +kernel
theorem dX7_remove_64 : decode cX7_remove 64 = .ok (.iastore, 1) := by decide +kernel
theorem dX7_remove_65 : decode cX7_remove 65 = .ok (.aload_n 0, 1) := by decide +kernel
theorem dX7_remove_66 : decode cX7_remove 66 = .ok (.getfield 18, 3) := by decide +kernel
theorem dX7_remove_69 : decode cX7_remove 69 = .ok (.iload_n 3, 1) := by decide +kernel
theorem dX7_remove_70 : decode cX7_remove 70 = .ok (.aload_n 0, 1) := by decide +kernel
theorem dX7_remove_71 : decode cX7_remove 71 = .ok (.getfield 18, 3) := by decide +kernel
theorem dX7_remove_74 : decode cX7_remove 74 = .ok (.iload_n 3, 1) := by decide +kernel
theorem dX7_remove_75 : decode cX7_remove 75 = .ok (.iconst 1, 1) := by decide +kernel
theorem dX7_remove_76 : decode cX7_remove 76 = .ok (.iadd, 1) := by decide +kernel
theorem dX7_remove_77 : decode cX7_remove 77 = .ok (.iaload, 1) := by decide +kernel
theorem dX7_remove_78 : decode cX7_remove 78 = .ok (.iastore, 1) := by decide +kernel
theorem dX7_remove_79 : decode cX7_remove 79 = .ok (.iinc 3 1, 3) := by decide +kernel
theorem dX7_remove_82 : decode cX7_remove 82 = .ok (.goto (-53), 3) := by decide +kernel
theorem dX7_remove_85 : decode cX7_remove 85 = .ok (.iload_n 2, 1) := by decide +kernel
theorem dX7_remove_86 : decode cX7_remove 86 = .ok (.ireturn, 1) := by decide +kernel
theorem dX7_clear_0 : decode cX7_clear 0 = .ok (.aload_n 0, 1) := by decide +kernel
theorem dX7_clear_1 : decode cX7_clear 1 = .ok (.iconst 0, 1) := by decide +kernel
theorem dX7_clear_2 : decode cX7_clear 2 = .ok (.putfield 21, 3) := by decide +kernel
theorem dX7_clear_5 : decode cX7_clear 5 = .ok (.return_, 1) := by decide +kernel
theorem dX7_coefficient_0 : decode cX7_coefficient 0 = .ok (.lconst 0, 1) := by decide +kernel
theorem dX7_coefficient_1 : decode cX7_coefficient 1 = .ok (.lstore 4, 2) := by decide +kernel
theorem dX7_coefficient_3 : decode cX7_coefficient 3 = .ok (.iconst 0, 1) := by decide +kernel
theorem dX7_coefficient_4 : decode cX7_coefficient 4 = .ok (.istore 6, 2) := by decide +kernel
theorem dX7_coefficient_6 : decode cX7_coefficient 6 = .ok (.iload 6, 2) := by decide +kernel
theorem dX7_coefficient_8 : decode cX7_coefficient 8 = .ok (.aload_n 0, 1) := by decide +kernel
theorem dX7_coefficient_9 : decode cX7_coefficient 9 = .ok (.getfield 21, 3) := by decide +kernel
theorem dX7_coefficient_12 : decode cX7_coefficient 12 = .ok (.if_icmp .ge 52, 3) := by decide +kernel
theorem dX7_coefficient_15 : decode cX7_coefficient 15 = .ok (.aload_n 0, 1) := by decide +kernel
theorem dX7_coefficient_16 : decode cX7_coefficient 16 = .ok (.getfield 18, 3) := by decide +kernel
theorem dX7_coefficient_19 : decode cX7_coefficient 19 = .ok (.iload 6, 2) := by decide +kernel
theorem dX7_coefficient_21 : decode cX7_coefficient 21 = .ok (.iaload, 1) := by decide +kernel
theorem dX7_coefficient_22 : decode cX7_coefficient 22 = .ok (.iload_n 3, 1) := by decide +kernel
theorem dX7_coefficient_23 : decode cX7_coefficient 23 = .ok (.if_icmp .ne 35, 3) := by decide +kernel
theorem dX7_coefficient_26 : decode cX7_coefficient 26 = .ok (.lload 4, 2) := by decide +kernel
theorem dX7_coefficient_28 : decode cX7_coefficient 28 = .ok (.aload_n 0, 1) := by decide +kernel
theorem dX7_coefficient_29 : decode cX7_coefficient 29 = .ok (.getfield 9, 3) := by decide +kernel
theorem dX7_coefficient_32 : decode cX7_coefficient 32 = .ok (.iload 6, 2) := by decide +kernel
theorem dX7_coefficient_34 : decode cX7_coefficient 34 = .ok (.iaload, 1) := by decide +kernel
theorem dX7_coefficient_35 : decode cX7_coefficient 35 = .ok (.i2l, 1) := by decide +kernel
theorem dX7_coefficient_36 : decode cX7_coefficient 36 = .ok (.lload_n 1, 1) := by decide +kernel
theorem dX7_coefficient_37 : decode cX7_coefficient 37 = .ok (.aload_n 0, 1) := by decide +kernel
theorem dX7_coefficient_38 : decode cX7_coefficient 38 = .ok (.getfield 15, 3) := by decide +kernel
theorem dX7_coefficient_41 : decode cX7_coefficient 41 = .ok (.iload 6, 2) := by decide +kernel
theorem dX7_coefficient_43 : decode cX7_coefficient 43 = .ok (.iaload, 1) := by decide +kernel
theorem dX7_coefficient_44 : decode cX7_coefficient 44 = .ok (.invokestatic 33, 3) := by decide +kernel
theorem dX7_coefficient_47 : decode cX7_coefficient 47 = .ok (.lmul, 1) := by decide +kernel
theorem dX7_coefficient_48 : decode cX7_coefficient 48 = .ok (.aload_n 0, 1) := by decide +kernel
theorem dX7_coefficient_49 : decode cX7_coefficient 49 = .ok (.iload 6, 2) := by decide +kernel
theorem dX7_coefficient_51 : decode cX7_coefficient 51 = .ok (.invokevirtual 37, 3) := by decide +kernel
theorem dX7_coefficient_54 : decode cX7_coefficient 54 = .ok (.lmul, 1) := by decide +kernel
theorem dX7_coefficient_55 : decode cX7_coefficient 55 = .ok (.ladd, 1) := by decide +kernel
theorem dX7_coefficient_56 : decode cX7_coefficient 56 = .ok (.lstore 4, 2) := by decide +kernel
theorem dX7_coefficient_58 : decode cX7_coefficient 58 = .ok (.iinc 6 1, 3) := by decide +kernel
theorem dX7_coefficient_61 : decode cX7_coefficient 61 = .ok (.goto (-55), 3) := by decide +kernel
theorem dX7_coefficient_64 : decode cX7_coefficient 64 = .ok (.lload 4, 2) := by decide +kernel
theorem dX7_coefficient_66 : decode cX7_coefficient 66 = .ok (.lreturn, 1) := by decide +kernel
theorem dX7_scale_0 : decode cX7_scale 0 = .ok (.aload_n 0, 1) := by decide +kernel
theorem dX7_scale_1 : decode cX7_scale 1 = .ok (.iload_n 1, 1) := by decide +kernel
theorem dX7_scale_2 : decode cX7_scale 2 = .ok (.invokevirtual 29, 3) := by decide +kernel
theorem dX7_scale_5 : decode cX7_scale 5 = .ok (.ifCond .eq 27, 3) := by decide +kernel
theorem dX7_scale_8 : decode cX7_scale 8 = .ok (.ldc2_w 41, 3) := by decide +kernel
theorem dX7_scale_11 : decode cX7_scale 11 = .ok (.iconst 3, 1) := by decide +kernel
theorem dX7_scale_12 : decode cX7_scale 12 = .ok (.aload_n 0, 1) := by decide +kernel
theorem dX7_scale_13 : decode cX7_scale 13 = .ok (.getfield 15, 3) := by decide +kernel
theorem dX7_scale_16 : decode cX7_scale 16 = .ok (.iload_n 1, 1) := by decide +kernel
theorem dX7_scale_17 : decode cX7_scale 17 = .ok (.iaload, 1) := by decide +kernel
theorem dX7_scale_18 : decode cX7_scale 18 = .ok (.isub, 1) := by decide +kernel
theorem dX7_scale_19 : decode cX7_scale 19 = .ok (.aload_n 0, 1) := by decide +kernel
theorem dX7_scale_20 : decode cX7_scale 20 = .ok (.getfield 18, 3) := by decide +kernel
theorem dX7_scale_23 : decode cX7_scale 23 = .ok (.iload_n 1, 1) := by decide +kernel
theorem dX7_scale_24 : decode cX7_scale 24 = .ok (.iaload, 1) := by decide +kernel
theorem dX7_scale_25 : decode cX7_scale 25 = .ok (.isub, 1) := by decide +kernel
theorem dX7_scale_26 : decode cX7_scale 26 = .ok (.invokestatic 33, 3) := by decide +kernel
theorem dX7_scale_29 : decode cX7_scale 29 = .ok (.goto 4, 3) := by decide +kernel
theorem dX7_scale_32 : decode cX7_scale 32 = .ok (.lconst 0, 1) := by decide +kernel
theorem dX7_scale_33 : decode cX7_scale 33 = .ok (.lreturn, 1) := by decide +kernel
theorem dX7_copyFrom_0 : decode cX7_copyFrom 0 = .ok (.aload_n 0, 1) := by decide +kernel
theorem dX7_copyFrom_1 : decode cX7_copyFrom 1 = .ok (.aload_n 1, 1) := by decide +kernel
theorem dX7_copyFrom_2 : decode cX7_copyFrom 2 = .ok (.getfield 21, 3) := by decide +kernel
theorem dX7_copyFrom_5 : decode cX7_copyFrom 5 = .ok (.putfield 21, 3) := by decide +kernel
theorem dX7_copyFrom_8 : decode cX7_copyFrom 8 = .ok (.iconst 0, 1) := by decide +kernel
theorem dX7_copyFrom_9 : decode cX7_copyFrom 9 = .ok (.istore_n 2, 1) := by decide +kernel
theorem dX7_copyFrom_10 : decode cX7_copyFrom 10 = .ok (.iload_n 2, 1) := by decide +kernel
theorem dX7_copyFrom_11 : decode cX7_copyFrom 11 = .ok (.aload_n 0, 1) := by decide +kernel
theorem dX7_copyFrom_12 : decode cX7_copyFrom 12 = .ok (.getfield 21, 3) := by decide +kernel
theorem dX7_copyFrom_15 : decode cX7_copyFrom 15 = .ok (.if_icmp .ge 45, 3) := by decide +kernel
theorem dX7_copyFrom_18 : decode cX7_copyFrom 18 = .ok (.aload_n 0, 1) := by decide +kernel
theorem dX7_copyFrom_19 : decode cX7_copyFrom 19 = .ok (.getfield 9, 3) := by decide +kernel
theorem dX7_copyFrom_22 : decode cX7_copyFrom 22 = .ok (.iload_n 2, 1) := by decide +kernel
theorem dX7_copyFrom_23 : decode cX7_copyFrom 23 = .ok (.aload_n 1, 1) := by decide +kernel
theorem dX7_copyFrom_24 : decode cX7_copyFrom 24 = .ok (.getfield 9, 3) := by decide +kernel
theorem dX7_copyFrom_27 : decode cX7_copyFrom 27 = .ok (.iload_n 2, 1) := by decide +kernel
theorem dX7_copyFrom_28 : decode cX7_copyFrom 28 = .ok (.iaload, 1) := by decide +kernel
theorem dX7_copyFrom_29 : decode cX7_copyFrom 29 = .ok (.iastore, 1) := by decide +kernel
theorem dX7_copyFrom_30 : decode cX7_copyFrom 30 = .ok (.aload_n 0, 1) := by decide +kernel
theorem dX7_copyFrom_31 : decode cX7_copyFrom 31 = .ok (.getfield 15, 3) := by decide +kernel
theorem dX7_copyFrom_34 : decode cX7_copyFrom 34 = .ok (.iload_n 2, 1) := by decide +kernel
theorem dX7_copyFrom_35 : decode cX7_copyFrom 35 = .ok (.aload_n 1, 1) := by decide +kernel
theorem dX7_copyFrom_36 : decode cX7_copyFrom 36 = .ok (.getfield 15, 3) := by decide +kernel
theorem dX7_copyFrom_39 : decode cX7_copyFrom 39 = .ok (.iload_n 2, 1) := by decide +kernel
theorem dX7_copyFrom_40 : decode cX7_copyFrom 40 = .ok (.iaload, 1) := by decide +kernel
theorem dX7_copyFrom_41 : decode cX7_copyFrom 41 = .ok (.iastore, 1) := by decide +kernel
theorem dX7_copyFrom_42 : decode cX7_copyFrom 42 = .ok (.aload_n 0, 1) := by decide +kernel
theorem dX7_copyFrom_43 : decode cX7_copyFrom 43 = .ok (.getfield 18, 3) := by decide +kernel
theorem dX7_copyFrom_46 : decode cX7_copyFrom 46 = .ok (.iload_n 2, 1) := by decide +kernel
theorem dX7_copyFrom_47 : decode cX7_copyFrom 47 = .ok (.aload_n 1, 1) := by decide +kernel
theorem dX7_copyFrom_48 : decode cX7_copyFrom 48 = .ok (.getfield 18, 3) := by decide +kernel
theorem dX7_copyFrom_51 : decode cX7_copyFrom 51 = .ok (.iload_n 2, 1) := by decide +kernel
theorem dX7_copyFrom_52 : decode cX7_copyFrom 52 = .ok (.iaload, 1) := by decide +kernel
theorem dX7_copyFrom_53 : decode cX7_copyFrom 53 = .ok (.iastore, 1) := by decide +kernel
theorem dX7_copyFrom_54 : decode cX7_copyFrom 54 = .ok (.iinc 2 1, 3) := by decide +kernel
theorem dX7_copyFrom_57 : decode cX7_copyFrom 57 = .ok (.goto (-47), 3) := by decide +kernel
theorem dX7_copyFrom_60 : decode cX7_copyFrom 60 = .ok (.return_, 1) := by decide +kernel
theorem dX8_init_0 : decode cX8_init 0 = .ok (.aload_n 0, 1) := by decide +kernel
theorem dX8_init_1 : decode cX8_init 1 = .ok (.invokespecial 3, 3) := by decide +kernel
theorem dX8_init_4 : decode cX8_init 4 = .ok (.aload_n 0, 1) := by decide +kernel
theorem dX8_init_5 : decode cX8_init 5 = .ok (.bipush 60, 2) := by decide +kernel
theorem dX8_init_7 : decode cX8_init 7 = .ok (.newarray .int, 2) := by decide +kernel
theorem dX8_init_9 : decode cX8_init 9 = .ok (.putfield 9, 3) := by decide +kernel
theorem dX8_init_12 : decode cX8_init 12 = .ok (.return_, 1) := by decide +kernel
theorem dX8_isFull_0 : decode cX8_isFull 0 = .ok (.aload_n 0, 1) := by decide +kernel
theorem dX8_isFull_1 : decode cX8_isFull 1 = .ok (.getfield 15, 3) := by decide +kernel
theorem dX8_isFull_4 : decode cX8_isFull 4 = .ok (.bipush 60, 2) := by decide +kernel
theorem dX8_isFull_6 : decode cX8_isFull 6 = .ok (.if_icmp .lt 7, 3) := by decide +kernel
theorem dX8_isFull_9 : decode cX8_isFull 9 = .ok (.iconst 1, 1) := by decide +kernel
theorem dX8_isFull_10 : decode cX8_isFull 10 = .ok (.goto 4, 3) := by decide +kernel
theorem dX8_isFull_13 : decode cX8_isFull 13 = .ok (.iconst 0, 1) := by decide +kernel
theorem dX8_isFull_14 : decode cX8_isFull 14 = .ok (.ireturn, 1) := by decide +kernel
theorem dX8_append_0 : decode cX8_append 0 = .ok (.aload_n 0, 1) := by decide +kernel
theorem dX8_append_1 : decode cX8_append 1 = .ok (.invokevirtual 19, 3) := by decide +kernel
theorem dX8_append_4 : decode cX8_append 4 = .ok (.ifCond .eq 4, 3) := by decide +kernel
theorem dX8_append_7 : decode cX8_append 7 = .ok (.return_, 1) := by decide +kernel
theorem dX8_append_8 : decode cX8_append 8 = .ok (.aload_n 0, 1) := by decide +kernel
theorem dX8_append_9 : decode cX8_append 9 = .ok (.getfield 9, 3) := by decide +kernel
theorem dX8_append_12 : decode cX8_append 12 = .ok (.aload_n 0, 1) := by decide +kernel
theorem dX8_append_13 : decode cX8_append 13 = .ok (.getfield 15, 3) := by decide +kernel
theorem dX8_append_16 : decode cX8_append 16 = .ok (.iload_n 1, 1) := by decide +kernel
theorem dX8_append_17 : decode cX8_append 17 = .ok (.iastore, 1) := by decide +kernel
theorem dX8_append_18 : decode cX8_append 18 = .ok (.aload_n 0, 1) := by decide +kernel
theorem dX8_append_19 : decode cX8_append 19 = .ok (.dup, 1) := by decide +kernel
end
section
theorem dX8_append_20 : decode cX8_append 20 = .ok (.getfield 15, 3) := by decide +kernel
theorem dX8_append_23 : decode cX8_append 23 = .ok (.iconst 1, 1) := by decide +kernel
theorem dX8_append_24 : decode cX8_append 24 = .ok (.iadd, 1) := by decide +kernel
theorem dX8_append_25 : decode cX8_append 25 = .ok (.putfield 15, 3) := by decide +kernel
theorem dX8_append_28 : decode cX8_append 28 = .ok (.return_, 1) := by decide +kernel
theorem dX9_init_0 : decode cX9_init 0 = .ok (.aload_n 0, 1) := by decide +kernel
theorem dX9_init_1 : decode cX9_init 1 = .ok (.invokespecial 3, 3) := by decide +kernel
theorem dX9_init_4 : decode cX9_init 4 = .ok (.aload_n 0, 1) := by decide +kernel
theorem dX9_init_5 : decode cX9_init 5 = .ok (.bipush 40, 2) := by decide +kernel
theorem dX9_init_7 : decode cX9_init 7 = .ok (.newarray .int, 2) := by decide +kernel
theorem dX9_init_9 : decode cX9_init 9 = .ok (.putfield 9, 3) := by decide +kernel
theorem dX9_init_12 : decode cX9_init 12 = .ok (.aload_n 0, 1) := by decide +kernel
theorem dX9_init_13 : decode cX9_init 13 = .ok (.bipush 40, 2) := by decide +kernel
theorem dX9_init_15 : decode cX9_init 15 = .ok (.newarray .int, 2) := by decide +kernel
theorem dX9_init_17 : decode cX9_init 17 = .ok (.putfield 15, 3) := by decide +kernel
theorem dX9_init_20 : decode cX9_init 20 = .ok (.aload_n 0, 1) := by decide +kernel
theorem dX9_init_21 : decode cX9_init 21 = .ok (.bipush 40, 2) := by decide +kernel
theorem dX9_init_23 : decode cX9_init 23 = .ok (.newarray .int, 2) := by decide +kernel
theorem dX9_init_25 : decode cX9_init 25 = .ok (.putfield 18, 3) := by decide +kernel
theorem dX9_init_28 : decode cX9_init 28 = .ok (.aload_n 0, 1) := by decide +kernel
theorem dX9_init_29 : decode cX9_init 29 = .ok (.bipush 40, 2) := by decide +kernel
theorem dX9_init_31 : decode cX9_init 31 = .ok (.newarray .int, 2) := by decide +kernel
theorem dX9_init_33 : decode cX9_init 33 = .ok (.putfield 21, 3) := by decide +kernel
theorem dX9_init_36 : decode cX9_init 36 = .ok (.return_, 1) := by decide +kernel
theorem dX9_start_0 : decode cX9_start 0 = .ok (.aload_n 0, 1) := by decide +kernel
theorem dX9_start_1 : decode cX9_start 1 = .ok (.iconst 0, 1) := by decide +kernel
theorem dX9_start_2 : decode cX9_start 2 = .ok (.putfield 24, 3) := by decide +kernel
theorem dX9_start_5 : decode cX9_start 5 = .ok (.aload_n 0, 1) := by decide +kernel
theorem dX9_start_6 : decode cX9_start 6 = .ok (.iload_n 1, 1) := by decide +kernel
theorem dX9_start_7 : decode cX9_start 7 = .ok (.putfield 28, 3) := by decide +kernel
theorem dX9_start_10 : decode cX9_start 10 = .ok (.aload_n 0, 1) := by decide +kernel
theorem dX9_start_11 : decode cX9_start 11 = .ok (.iload_n 2, 1) := by decide +kernel
theorem dX9_start_12 : decode cX9_start 12 = .ok (.putfield 31, 3) := by decide +kernel
theorem dX9_start_15 : decode cX9_start 15 = .ok (.aload_n 0, 1) := by decide +kernel
theorem dX9_start_16 : decode cX9_start 16 = .ok (.iconst 0, 1) := by decide +kernel
theorem dX9_start_17 : decode cX9_start 17 = .ok (.putfield 34, 3) := by decide +kernel
theorem dX9_start_20 : decode cX9_start 20 = .ok (.aload_n 0, 1) := by decide +kernel
theorem dX9_start_21 : decode cX9_start 21 = .ok (.iload_n 3, 1) := by decide +kernel
theorem dX9_start_22 : decode cX9_start 22 = .ok (.putfield 38, 3) := by decide +kernel
theorem dX9_start_25 : decode cX9_start 25 = .ok (.aload_n 0, 1) := by decide +kernel
theorem dX9_start_26 : decode cX9_start 26 = .ok (.iload 4, 2) := by decide +kernel
theorem dX9_start_28 : decode cX9_start 28 = .ok (.putfield 41, 3) := by decide +kernel
theorem dX9_start_31 : decode cX9_start 31 = .ok (.return_, 1) := by decide +kernel
theorem dX9_addPlace_0 : decode cX9_addPlace 0 = .ok (.aload_n 0, 1) := by decide +kernel
theorem dX9_addPlace_1 : decode cX9_addPlace 1 = .ok (.getfield 24, 3) := by decide +kernel
theorem dX9_addPlace_4 : decode cX9_addPlace 4 = .ok (.bipush 40, 2) := by decide +kernel
theorem dX9_addPlace_6 : decode cX9_addPlace 6 = .ok (.if_icmp .lt 4, 3) := by decide +kernel
theorem dX9_addPlace_9 : decode cX9_addPlace 9 = .ok (.return_, 1) := by decide +kernel
theorem dX9_addPlace_10 : decode cX9_addPlace 10 = .ok (.aload_n 0, 1) := by decide +kernel
theorem dX9_addPlace_11 : decode cX9_addPlace 11 = .ok (.getfield 9, 3) := by decide +kernel
theorem dX9_addPlace_14 : decode cX9_addPlace 14 = .ok (.aload_n 0, 1) := by decide +kernel
theorem dX9_addPlace_15 : decode cX9_addPlace 15 = .ok (.getfield 24, 3) := by decide +kernel
theorem dX9_addPlace_18 : decode cX9_addPlace 18 = .ok (.aload_n 1, 1) := by decide +kernel
theorem dX9_addPlace_19 : decode cX9_addPlace 19 = .ok (.getfield 44, 3) := by decide +kernel
theorem dX9_addPlace_22 : decode cX9_addPlace 22 = .ok (.iastore, 1) := by decide +kernel
theorem dX9_addPlace_23 : decode cX9_addPlace 23 = .ok (.aload_n 0, 1) := by decide +kernel
theorem dX9_addPlace_24 : decode cX9_addPlace 24 = .ok (.getfield 15, 3) := by decide +kernel
theorem dX9_addPlace_27 : decode cX9_addPlace 27 = .ok (.aload_n 0, 1) := by decide +kernel
theorem dX9_addPlace_28 : decode cX9_addPlace 28 = .ok (.getfield 24, 3) := by decide +kernel
theorem dX9_addPlace_31 : decode cX9_addPlace 31 = .ok (.aload_n 1, 1) := by decide +kernel
theorem dX9_addPlace_32 : decode cX9_addPlace 32 = .ok (.getfield 49, 3) := by decide +kernel
theorem dX9_addPlace_35 : decode cX9_addPlace 35 = .ok (.iastore, 1) := by decide +kernel
theorem dX9_addPlace_36 : decode cX9_addPlace 36 = .ok (.aload_n 0, 1) := by decide +kernel
theorem dX9_addPlace_37 : decode cX9_addPlace 37 = .ok (.getfield 18, 3) := by decide +kernel
theorem dX9_addPlace_40 : decode cX9_addPlace 40 = .ok (.aload_n 0, 1) := by decide +kernel
theorem dX9_addPlace_41 : decode cX9_addPlace 41 = .ok (.getfield 24, 3) := by decide +kernel
theorem dX9_addPlace_44 : decode cX9_addPlace 44 = .ok (.aload_n 1, 1) := by decide +kernel
theorem dX9_addPlace_45 : decode cX9_addPlace 45 = .ok (.getfield 52, 3) := by decide +kernel
theorem dX9_addPlace_48 : decode cX9_addPlace 48 = .ok (.iastore, 1) := by decide +kernel
theorem dX9_addPlace_49 : decode cX9_addPlace 49 = .ok (.aload_n 0, 1) := by decide +kernel
theorem dX9_addPlace_50 : decode cX9_addPlace 50 = .ok (.getfield 21, 3) := by decide +kernel
theorem dX9_addPlace_53 : decode cX9_addPlace 53 = .ok (.aload_n 0, 1) := by decide +kernel
theorem dX9_addPlace_54 : decode cX9_addPlace 54 = .ok (.getfield 24, 3) := by decide +kernel
theorem dX9_addPlace_57 : decode cX9_addPlace 57 = .ok (.iload_n 2, 1) := by decide +kernel
theorem dX9_addPlace_58 : decode cX9_addPlace 58 = .ok (.iastore, 1) := by decide +kernel
theorem dX9_addPlace_59 : decode cX9_addPlace 59 = .ok (.aload_n 0, 1) := by decide +kernel
theorem dX9_addPlace_60 : decode cX9_addPlace 60 = .ok (.dup, 1) := by decide +kernel
theorem dX9_addPlace_61 : decode cX9_addPlace 61 = .ok (.getfield 24, 3) := by decide +kernel
theorem dX9_addPlace_64 : decode cX9_addPlace 64 = .ok (.iconst 1, 1) := by decide +kernel
theorem dX9_addPlace_65 : decode cX9_addPlace 65 = .ok (.iadd, 1) := by decide +kernel
theorem dX9_addPlace_66 : decode cX9_addPlace 66 = .ok (.putfield 24, 3) := by decide +kernel
theorem dX9_addPlace_69 : decode cX9_addPlace 69 = .ok (.return_, 1) := by decide +kernel
theorem dX9_has_0 : decode cX9_has 0 = .ok (.iload_n 1, 1) := by decide +kernel
theorem dX9_has_1 : decode cX9_has 1 = .ok (.ifCond .lt 15, 3) := by decide +kernel
theorem dX9_has_4 : decode cX9_has 4 = .ok (.iload_n 1, 1) := by decide +kernel
theorem dX9_has_5 : decode cX9_has 5 = .ok (.aload_n 0, 1) := by decide +kernel
theorem dX9_has_6 : decode cX9_has 6 = .ok (.getfield 24, 3) := by decide +kernel
theorem dX9_has_9 : decode cX9_has 9 = .ok (.if_icmp .ge 7, 3) := by decide +kernel
theorem dX9_has_12 : decode cX9_has 12 = .ok (.iconst 1, 1) := by decide +kernel
theorem dX9_has_13 : decode cX9_has 13 = .ok (.goto 4, 3) := by decide +kernel
theorem dX9_has_16 : decode cX9_has 16 = .ok (.iconst 0, 1) := by decide +kernel
theorem dX9_has_17 : decode cX9_has 17 = .ok (.ireturn, 1) := by decide +kernel
theorem dX9_condition_0 : decode cX9_condition 0 = .ok (.aload_n 0, 1) := by decide +kernel
theorem dX9_condition_1 : decode cX9_condition 1 = .ok (.getfield 34, 3) := by decide +kernel
theorem dX9_condition_4 : decode cX9_condition 4 = .ok (.ifCond .eq 5, 3) := by decide +kernel
theorem dX9_condition_7 : decode cX9_condition 7 = .ok (.iconst 1, 1) := by decide +kernel
theorem dX9_condition_8 : decode cX9_condition 8 = .ok (.ireturn, 1) := by decide +kernel
theorem dX9_condition_9 : decode cX9_condition 9 = .ok (.aload_n 0, 1) := by decide +kernel
theorem dX9_condition_10 : decode cX9_condition 10 = .ok (.getfield 24, 3) := by decide +kernel
theorem dX9_condition_13 : decode cX9_condition 13 = .ok (.bipush 40, 2) := by decide +kernel
theorem dX9_condition_15 : decode cX9_condition 15 = .ok (.if_icmp .lt 7, 3) := by decide +kernel
theorem dX9_condition_18 : decode cX9_condition 18 = .ok (.iconst 2, 1) := by decide +kernel
theorem dX9_condition_19 : decode cX9_condition 19 = .ok (.goto 4, 3) := by decide +kernel
theorem dX9_condition_22 : decode cX9_condition 22 = .ok (.iconst 0, 1) := by decide +kernel
theorem dX9_condition_23 : decode cX9_condition 23 = .ok (.ireturn, 1) := by decide +kernel
theorem dX9_lastX_0 : decode cX9_lastX 0 = .ok (.aload_n 0, 1) := by decide +kernel
theorem dX9_lastX_1 : decode cX9_lastX 1 = .ok (.aload_n 0, 1) := by decide +kernel
theorem dX9_lastX_2 : decode cX9_lastX 2 = .ok (.getfield 24, 3) := by decide +kernel
theorem dX9_lastX_5 : decode cX9_lastX 5 = .ok (.iconst 1, 1) := by decide +kernel
theorem dX9_lastX_6 : decode cX9_lastX 6 = .ok (.isub, 1) := by decide +kernel
theorem dX9_lastX_7 : decode cX9_lastX 7 = .ok (.invokevirtual 54, 3) := by decide +kernel
theorem dX9_lastX_10 : decode cX9_lastX 10 = .ok (.ifCond .eq 17, 3) := by decide +kernel
theorem dX9_lastX_13 : decode cX9_lastX 13 = .ok (.aload_n 0, 1) := by decide +kernel
theorem dX9_lastX_14 : decode cX9_lastX 14 = .ok (.getfield 9, 3) := by decide +kernel
theorem dX9_lastX_17 : decode cX9_lastX 17 = .ok (.aload_n 0, 1) := by decide +kernel
theorem dX9_lastX_18 : decode cX9_lastX 18 = .ok (.getfield 24, 3) := by decide +kernel
theorem dX9_lastX_21 : decode cX9_lastX 21 = .ok (.iconst 1, 1) := by decide +kernel
theorem dX9_lastX_22 : decode cX9_lastX 22 = .ok (.isub, 1) := by decide +kernel
theorem dX9_lastX_23 : decode cX9_lastX 23 = .ok (.iaload, 1) := by decide +kernel
theorem dX9_lastX_24 : decode cX9_lastX 24 = .ok (.goto 4, 3) := by decide +kernel
theorem dX9_lastX_27 : decode cX9_lastX 27 = .ok (.iconst 0, 1) := by decide +kernel
theorem dX9_lastX_28 : decode cX9_lastX 28 = .ok (.ireturn, 1) := by decide +kernel
theorem dX9_lastY_0 : decode cX9_lastY 0 = .ok (.aload_n 0, 1) := by decide +kernel
theorem dX9_lastY_1 : decode cX9_lastY 1 = .ok (.aload_n 0, 1) := by decide +kernel
theorem dX9_lastY_2 : decode cX9_lastY 2 = .ok (.getfield 24, 3) := by decide +kernel
theorem dX9_lastY_5 : decode cX9_lastY 5 = .ok (.iconst 1, 1) := by decide +kernel
theorem dX9_lastY_6 : decode cX9_lastY 6 = .ok (.isub, 1) := by decide +kernel
theorem dX9_lastY_7 : decode cX9_lastY 7 = .ok (.invokevirtual 54, 3) := by decide +kernel
theorem dX9_lastY_10 : decode cX9_lastY 10 = .ok (.ifCond .eq 17, 3) := by decide +kernel
theorem dX9_lastY_13 : decode cX9_lastY 13 = .ok (.aload_n 0, 1) := by decide +kernel
theorem dX9_lastY_14 : decode cX9_lastY 14 = .ok (.getfield 15, 3) := by decide +kernel
theorem dX9_lastY_17 : decode cX9_lastY 17 = .ok (.aload_n 0, 1) := by decide +kernel
theorem dX9_lastY_18 : decode cX9_lastY 18 = .ok (.getfield 24, 3) := by decide +kernel
theorem dX9_lastY_21 : decode cX9_lastY 21 = .ok (.iconst 1, 1) := by decide +kernel
theorem dX9_lastY_22 : decode cX9_lastY 22 = .ok (.isub, 1) := by decide +kernel
theorem dX9_lastY_23 : decode cX9_lastY 23 = .ok (.iaload, 1) := by decide +kernel
theorem dX9_lastY_24 : decode cX9_lastY 24 = .ok (.goto 4, 3) := by decide +kernel
theorem dX9_lastY_27 : decode cX9_lastY 27 = .ok (.iconst 0, 1) := by decide +kernel
theorem dX9_lastY_28 : decode cX9_lastY 28 = .ok (.ireturn, 1) := by decide +kernel
theorem dX9_changeOfX_0 : decode cX9_changeOfX 0 = .ok (.aload_n 0, 1) := by decide +kernel
theorem dX9_changeOfX_1 : decode cX9_changeOfX 1 = .ok (.iload_n 1, 1) := by decide +kernel
theorem dX9_changeOfX_2 : decode cX9_changeOfX 2 = .ok (.invokevirtual 54, 3) := by decide +kernel
theorem dX9_changeOfX_5 : decode cX9_changeOfX 5 = .ok (.ifCond .eq 31, 3) := by decide +kernel
theorem dX9_changeOfX_8 : decode cX9_changeOfX 8 = .ok (.aload_n 0, 1) := by decide +kernel
theorem dX9_changeOfX_9 : decode cX9_changeOfX 9 = .ok (.iload_n 1, 1) := by decide +kernel
theorem dX9_changeOfX_10 : decode cX9_changeOfX 10 = .ok (.iconst 1, 1) := by decide +kernel
theorem dX9_changeOfX_11 : decode cX9_changeOfX 11 = .ok (.isub, 1) := by decide +kernel
theorem dX9_changeOfX_12 : decode cX9_changeOfX 12 = .ok (.invokevirtual 54, 3) := by decide +kernel
theorem dX9_changeOfX_15 : decode cX9_changeOfX 15 = .ok (.ifCond .eq 21, 3) := by decide +kernel
theorem dX9_changeOfX_18 : decode cX9_changeOfX 18 = .ok (.aload_n 0, 1) := by decide +kernel
theorem dX9_changeOfX_19 : decode cX9_changeOfX 19 = .ok (.getfield 9, 3) := by decide +kernel
theorem dX9_changeOfX_22 : decode cX9_changeOfX 22 = .ok (.iload_n 1, 1) := by decide +kernel
theorem dX9_changeOfX_23 : decode cX9_changeOfX 23 = .ok (.iaload, 1) := by decide +kernel
theorem dX9_changeOfX_24 : decode cX9_changeOfX 24 = .ok (.aload_n 0, 1) := by decide +kernel
theorem dX9_changeOfX_25 : decode cX9_changeOfX 25 = .ok (.getfield 9, 3) := by decide +kernel
theorem dX9_changeOfX_28 : decode cX9_changeOfX 28 = .ok (.iload_n 1, 1) := by decide +kernel
theorem dX9_changeOfX_29 : decode cX9_changeOfX 29 = .ok (.iconst 1, 1) := by decide +kernel
theorem dX9_changeOfX_30 : decode cX9_changeOfX 30 = .ok (.isub, 1) := by decide +kernel
theorem dX9_changeOfX_31 : decode cX9_changeOfX 31 = .ok (.iaload, 1) := by decide +kernel
theorem dX9_changeOfX_32 : decode cX9_changeOfX 32 = .ok (.isub, 1) := by decide +kernel
theorem dX9_changeOfX_33 : decode cX9_changeOfX 33 = .ok (.goto 4, 3) := by decide +kernel
theorem dX9_changeOfX_36 : decode cX9_changeOfX 36 = .ok (.iconst 0, 1) := by decide +kernel
theorem dX9_changeOfX_37 : decode cX9_changeOfX 37 = .ok (.ireturn, 1) := by decide +kernel
theorem dX9_changeOfY_0 : decode cX9_changeOfY 0 = .ok (.aload_n 0, 1) := by decide +kernel
theorem dX9_changeOfY_1 : decode cX9_changeOfY 1 = .ok (.iload_n 1, 1) := by decide +kernel
theorem dX9_changeOfY_2 : decode cX9_changeOfY 2 = .ok (.invokevirtual 54, 3) := by decide +kernel
theorem dX9_changeOfY_5 : decode cX9_changeOfY 5 = .ok (.ifCond .eq 31, 3) := by decide +kernel
theorem dX9_changeOfY_8 : decode cX9_changeOfY 8 = .ok (.aload_n 0, 1) := by decide +kernel
theorem dX9_changeOfY_9 : decode cX9_changeOfY 9 = .ok (.iload_n 1, 1) := by decide +kernel
theorem dX9_changeOfY_10 : decode cX9_changeOfY 10 = .ok (.iconst 1, 1) := by decide +kernel
theorem dX9_changeOfY_11 : decode cX9_changeOfY 11 = .ok (.isub, 1) := by decide +kernel
theorem dX9_changeOfY_12 : decode cX9_changeOfY 12 = .ok (.invokevirtual 54, 3) := by decide +kernel
theorem dX9_changeOfY_15 : decode cX9_changeOfY 15 = .ok (.ifCond .eq 21, 3) := by decide +kernel
theorem dX9_changeOfY_18 : decode cX9_changeOfY 18 = .ok (.aload_n 0, 1) := by decide +kernel
theorem dX9_changeOfY_19 : decode cX9_changeOfY 19 = .ok (.getfield 15, 3) := by decide +kernel
theorem dX9_changeOfY_22 : decode cX9_changeOfY 22 = .ok (.iload_n 1, 1) := by decide +kernel
theorem dX9_changeOfY_23 : decode cX9_changeOfY 23 = .ok (.iaload, 1) := by decide +kernel
theorem dX9_changeOfY_24 : decode cX9_changeOfY 24 = .ok (.aload_n 0, 1) := by decide +kernel
theorem dX9_changeOfY_25 : decode cX9_changeOfY 25 = .ok (.getfield 15, 3) := by decide +kernel
theorem dX9_changeOfY_28 : decode cX9_changeOfY 28 = .ok (.iload_n 1, 1) := by decide +kernel
theorem dX9_changeOfY_29 : decode cX9_changeOfY 29 = .ok (.iconst 1, 1) := by decide +kernel
theorem dX9_changeOfY_30 : decode cX9_changeOfY 30 = .ok (.isub, 1) := by decide +kernel
theorem dX9_changeOfY_31 : decode cX9_changeOfY 31 = .ok (.iaload, 1) := by decide +kernel
theorem dX9_changeOfY_32 : decode cX9_changeOfY 32 = .ok (.isub, 1) := by decide +kernel
theorem dX9_changeOfY_33 : decode cX9_changeOfY 33 = .ok (.goto 4, 3) := by decide +kernel
theorem dX9_changeOfY_36 : decode cX9_changeOfY 36 = .ok (.iconst 0, 1) := by decide +kernel
theorem dX9_changeOfY_37 : decode cX9_changeOfY 37 = .ok (.ireturn, 1) := by decide +kernel
theorem dX9_placesOfKind_0 : decode cX9_placesOfKind 0 = .ok (.iconst 0, 1) := by decide +kernel
theorem dX9_placesOfKind_1 : decode cX9_placesOfKind 1 = .ok (.istore_n 2, 1) := by decide +kernel
theorem dX9_placesOfKind_2 : decode cX9_placesOfKind 2 = .ok (.iconst 0, 1) := by decide +kernel
theorem dX9_placesOfKind_3 : decode cX9_placesOfKind 3 = .ok (.istore_n 3, 1) := by decide +kernel
theorem dX9_placesOfKind_4 : decode cX9_placesOfKind 4 = .ok (.iload_n 3, 1) := by decide +kernel
theorem dX9_placesOfKind_5 : decode cX9_placesOfKind 5 = .ok (.aload_n 0, 1) := by decide +kernel
theorem dX9_placesOfKind_6 : decode cX9_placesOfKind 6 = .ok (.getfield 24, 3) := by decide +kernel
theorem dX9_placesOfKind_9 : decode cX9_placesOfKind 9 = .ok (.if_icmp .ge 22, 3) := by decide +kernel
theorem dX9_placesOfKind_12 : decode cX9_placesOfKind 12 = .ok (.aload_n 0, 1) := by decide +kernel
theorem dX9_placesOfKind_13 : decode cX9_placesOfKind 13 = .ok (.getfield 21, 3) := by decide +kernel
theorem dX9_placesOfKind_16 : decode cX9_placesOfKind 16 = .ok (.iload_n 3, 1) := by decide +kernel
theorem dX9_placesOfKind_17 : decode cX9_placesOfKind 17 = .ok (.iaload, 1) := by decide +kernel
theorem dX9_placesOfKind_18 : decode cX9_placesOfKind 18 = .ok (.iload_n 1, 1) := by decide +kernel
theorem dX9_placesOfKind_19 : decode cX9_placesOfKind 19 = .ok (.if_icmp .ne 6, 3) := by decide +kernel
theorem dX9_placesOfKind_22 : decode cX9_placesOfKind 22 = .ok (.iinc 2 1, 3) := by decide +kernel
theorem dX9_placesOfKind_25 : decode cX9_placesOfKind 25 = .ok (.iinc 3 1, 3) := by decide +kernel
theorem dX9_placesOfKind_28 : decode cX9_placesOfKind 28 = .ok (.goto (-24), 3) := by decide +kernel
theorem dX9_placesOfKind_31 : decode cX9_placesOfKind 31 = .ok (.iload_n 2, 1) := by decide +kernel
theorem dX9_placesOfKind_32 : decode cX9_placesOfKind 32 = .ok (.ireturn, 1) := by decide +kernel
theorem dX9_lengthInParts_0 : decode cX9_lengthInParts 0 = .ok (.iconst 0, 1) := by decide +kernel
theorem dX9_lengthInParts_1 : decode cX9_lengthInParts 1 = .ok (.istore_n 1, 1) := by decide +kernel
theorem dX9_lengthInParts_2 : decode cX9_lengthInParts 2 = .ok (.iconst 1, 1) := by decide +kernel
theorem dX9_lengthInParts_3 : decode cX9_lengthInParts 3 = .ok (.istore_n 2, 1) := by decide +kernel
theorem dX9_lengthInParts_4 : decode cX9_lengthInParts 4 = .ok (.iload_n 2, 1) := by decide +kernel
theorem dX9_lengthInParts_5 : decode cX9_lengthInParts 5 = .ok (.aload_n 0, 1) := by decide +kernel
theorem dX9_lengthInParts_6 : decode cX9_lengthInParts 6 = .ok (.getfield 24, 3) := by decide +kernel
theorem dX9_lengthInParts_9 : decode cX9_lengthInParts 9 = .ok (.if_icmp .ge 40, 3) := by decide +kernel
theorem dX9_lengthInParts_12 : decode cX9_lengthInParts 12 = .ok (.aload_n 0, 1) := by decide +kernel
theorem dX9_lengthInParts_13 : decode cX9_lengthInParts 13 = .ok (.iload_n 2, 1) := by decide +kernel
theorem dX9_lengthInParts_14 : decode cX9_lengthInParts 14 = .ok (.invokevirtual 58, 3) := by decide +kernel
theorem dX9_lengthInParts_17 : decode cX9_lengthInParts 17 = .ok (.i2l, 1) := by decide +kernel
theorem dX9_lengthInParts_18 : decode cX9_lengthInParts 18 = .ok (.lstore_n 3, 1) := by decide +kernel
theorem dX9_lengthInParts_19 : decode cX9_lengthInParts 19 = .ok (.aload_n 0, 1) := by decide +kernel
theorem dX9_lengthInParts_20 : decode cX9_lengthInParts 20 = .ok (.iload_n 2, 1) := by decide +kernel
theorem dX9_lengthInParts_21 : decode cX9_lengthInParts 21 = .ok (.invokevirtual 62, 3) := by decide +kernel
theorem dX9_lengthInParts_24 : decode cX9_lengthInParts 24 = .ok (.i2l, 1) := by decide +kernel
theorem dX9_lengthInParts_25 : decode cX9_lengthInParts 25 = .ok (.lstore 5, 2) := by decide +kernel
theorem dX9_lengthInParts_27 : decode cX9_lengthInParts 27 = .ok (.iload_n 1, 1) := by decide +kernel
theorem dX9_lengthInParts_28 : decode cX9_lengthInParts 28 = .ok (.lload_n 3, 1) := by decide +kernel
theorem dX9_lengthInParts_29 : decode cX9_lengthInParts 29 = .ok (.lload_n 3, 1) := by decide +kernel
theorem dX9_lengthInParts_30 : decode cX9_lengthInParts 30 = .ok (.lmul, 1) := by decide +kernel
theorem dX9_lengthInParts_31 : decode cX9_lengthInParts 31 = .ok (.lload 5, 2) := by decide +kernel
theorem dX9_lengthInParts_33 : decode cX9_lengthInParts 33 = .ok (.lload 5, 2) := by decide +kernel
theorem dX9_lengthInParts_35 : decode cX9_lengthInParts 35 = .ok (.lmul, 1) := by decide +kernel
theorem dX9_lengthInParts_36 : decode cX9_lengthInParts 36 = .ok (.ladd, 1) := by decide +kernel
theorem dX9_lengthInParts_37 : decode cX9_lengthInParts 37 = .ok (.invokestatic 65, 3) := by decide +kernel
theorem dX9_lengthInParts_40 : decode cX9_lengthInParts 40 = .ok (.l2i, 1) := by decide +kernel
theorem dX9_lengthInParts_41 : decode cX9_lengthInParts 41 = .ok (.iadd, 1) := by decide +kernel
theorem dX9_lengthInParts_42 : decode cX9_lengthInParts 42 = .ok (.istore_n 1, 1) := by decide +kernel
theorem dX9_lengthInParts_43 : decode cX9_lengthInParts 43 = .ok (.iinc 2 1, 3) := by decide +kernel
theorem dX9_lengthInParts_46 : decode cX9_lengthInParts 46 = .ok (.goto (-42), 3) := by decide +kernel
theorem dX9_lengthInParts_49 : decode cX9_lengthInParts 49 = .ok (.iload_n 1, 1) := by decide +kernel
theorem dX9_lengthInParts_50 : decode cX9_lengthInParts 50 = .ok (.ireturn, 1) := by decide +kernel
theorem dX9_nearestTo_0 : decode cX9_nearestTo 0 = .ok (.iconst 0, 1) := by decide +kernel
theorem dX9_nearestTo_1 : decode cX9_nearestTo 1 = .ok (.istore 5, 2) := by decide +kernel
theorem dX9_nearestTo_3 : decode cX9_nearestTo 3 = .ok (.iconst 1, 1) := by decide +kernel
theorem dX9_nearestTo_4 : decode cX9_nearestTo 4 = .ok (.istore 6, 2) := by decide +kernel
theorem dX9_nearestTo_6 : decode cX9_nearestTo 6 = .ok (.iload 6, 2) := by decide +kernel
theorem dX9_nearestTo_8 : decode cX9_nearestTo 8 = .ok (.aload_n 0, 1) := by decide +kernel
theorem dX9_nearestTo_9 : decode cX9_nearestTo 9 = .ok (.getfield 24, 3) := by decide +kernel
theorem dX9_nearestTo_12 : decode cX9_nearestTo 12 = .ok (.if_icmp .ge 33, 3) := by decide +kernel
theorem dX9_nearestTo_15 : decode cX9_nearestTo 15 = .ok (.aload_n 0, 1) := by decide +kernel
theorem dX9_nearestTo_16 : decode cX9_nearestTo 16 = .ok (.iload 6, 2) := by decide +kernel
theorem dX9_nearestTo_18 : decode cX9_nearestTo 18 = .ok (.lload_n 1, 1) := by decide +kernel
theorem dX9_nearestTo_19 : decode cX9_nearestTo 19 = .ok (.lload_n 3, 1) := by decide +kernel
theorem dX9_nearestTo_20 : decode cX9_nearestTo 20 = .ok (.invokevirtual 69, 3) := by decide +kernel
theorem dX9_nearestTo_23 : decode cX9_nearestTo 23 = .ok (.aload_n 0, 1) := by decide +kernel
theorem dX9_nearestTo_24 : decode cX9_nearestTo 24 = .ok (.iload 5, 2) := by decide +kernel
theorem dX9_nearestTo_26 : decode cX9_nearestTo 26 = .ok (.lload_n 1, 1) := by decide +kernel
theorem dX9_nearestTo_27 : decode cX9_nearestTo 27 = .ok (.lload_n 3, 1) := by decide +kernel
theorem dX9_nearestTo_28 : decode cX9_nearestTo 28 = .ok (.invokevirtual 69, 3) := by decide +kernel
theorem dX9_nearestTo_31 : decode cX9_nearestTo 31 = .ok (.lcmp, 1) := by decide +kernel
theorem dX9_nearestTo_32 : decode cX9_nearestTo 32 = .ok (.ifCond .ge 7, 3) := by decide +kernel
theorem dX9_nearestTo_35 : decode cX9_nearestTo 35 = .ok (.iload 6, 2) := by decide +kernel
theorem dX9_nearestTo_37 : decode cX9_nearestTo 37 = .ok (.istore 5, 2) := by decide +kernel
theorem dX9_nearestTo_39 : decode cX9_nearestTo 39 = .ok (.iinc 6 1, 3) := by decide +kernel
theorem dX9_nearestTo_42 : decode cX9_nearestTo 42 = .ok (.goto (-36), 3) := by decide +kernel
theorem dX9_nearestTo_45 : decode cX9_nearestTo 45 = .ok (.iload 5, 2) := by decide +kernel
theorem dX9_nearestTo_47 : decode cX9_nearestTo 47 = .ok (.ireturn, 1) := by decide +kernel
theorem dX9_squaresTo_0 : decode cX9_squaresTo 0 = .ok (.aload_n 0, 1) := by decide +kernel
theorem dX9_squaresTo_1 : decode cX9_squaresTo 1 = .ok (.iload_n 1, 1) := by decide +kernel
theorem dX9_squaresTo_2 : decode cX9_squaresTo 2 = .ok (.invokevirtual 54, 3) := by decide +kernel
theorem dX9_squaresTo_5 : decode cX9_squaresTo 5 = .ok (.ifCond .ne 5, 3) := by decide +kernel
theorem dX9_squaresTo_8 : decode cX9_squaresTo 8 = .ok (.lconst 0, 1) := by decide +kernel
theorem dX9_squaresTo_9 : decode cX9_squaresTo 9 = .ok (.lreturn, 1) := by decide +kernel
theorem dX9_squaresTo_10 : decode cX9_squaresTo 10 = .ok (.aload_n 0, 1) := by decide +kernel
theorem dX9_squaresTo_11 : decode cX9_squaresTo 11 = .ok (.getfield 9, 3) := by decide +kernel
theorem dX9_squaresTo_14 : decode cX9_squaresTo 14 = .ok (.iload_n 1, 1) := by decide +kernel
theorem dX9_squaresTo_15 : decode cX9_squaresTo 15 = .ok (.iaload, 1) := by decide +kernel
theorem dX9_squaresTo_16 : decode cX9_squaresTo 16 = .ok (.i2l, 1) := by decide +kernel
theorem dX9_squaresTo_17 : decode cX9_squaresTo 17 = .ok (.lload_n 2, 1) := by decide +kernel
theorem dX9_squaresTo_18 : decode cX9_squaresTo 18 = .ok (.lsub, 1) := by decide +kernel
theorem dX9_squaresTo_19 : decode cX9_squaresTo 19 = .ok (.lstore 6, 2) := by decide +kernel
theorem dX9_squaresTo_21 : decode cX9_squaresTo 21 = .ok (.aload_n 0, 1) := by decide +kernel
theorem dX9_squaresTo_22 : decode cX9_squaresTo 22 = .ok (.getfield 15, 3) := by decide +kernel
theorem dX9_squaresTo_25 : decode cX9_squaresTo 25 = .ok (.iload_n 1, 1) := by decide +kernel
theorem dX9_squaresTo_26 : decode cX9_squaresTo 26 = .ok (.iaload, 1) := by decide +kernel
theorem dX9_squaresTo_27 : decode cX9_squaresTo 27 = .ok (.i2l, 1) := by decide +kernel
theorem dX9_squaresTo_28 : decode cX9_squaresTo 28 = .ok (.lload 4, 2) := by decide +kernel
theorem dX9_squaresTo_30 : decode cX9_squaresTo 30 = .ok (.lsub, 1) := by decide +kernel
theorem dX9_squaresTo_31 : decode cX9_squaresTo 31 = .ok (.lstore 8, 2) := by decide +kernel
theorem dX9_squaresTo_33 : decode cX9_squaresTo 33 = .ok (.lload 6, 2) := by decide +kernel
theorem dX9_squaresTo_35 : decode cX9_squaresTo 35 = .ok (.lload 6, 2) := by decide +kernel
theorem dX9_squaresTo_37 : decode cX9_squaresTo 37 = .ok (.lmul, 1) := by decide +kernel
theorem dX9_squaresTo_38 : decode cX9_squaresTo 38 = .ok (.lload 8, 2) := by decide +kernel
theorem dX9_squaresTo_40 : decode cX9_squaresTo 40 = .ok (.lload 8, 2) := by decide +kernel
theorem dX9_squaresTo_42 : decode cX9_squaresTo 42 = .ok (.lmul, 1) := by decide +kernel
theorem dX9_squaresTo_43 : decode cX9_squaresTo 43 = .ok (.ladd, 1) := by decide +kernel
theorem dX9_squaresTo_44 : decode cX9_squaresTo 44 = .ok (.lreturn, 1) := by decide +kernel
theorem dX9_copyFrom_0 : decode cX9_copyFrom 0 = .ok (.aload_n 0, 1) := by decide +kernel
theorem dX9_copyFrom_1 : decode cX9_copyFrom 1 = .ok (.aload_n 1, 1) := by decide +kernel
theorem dX9_copyFrom_2 : decode cX9_copyFrom 2 = .ok (.getfield 28, 3) := by decide +kernel
theorem dX9_copyFrom_5 : decode cX9_copyFrom 5 = .ok (.aload_n 1, 1) := by decide +kernel
theorem dX9_copyFrom_6 : decode cX9_copyFrom 6 = .ok (.getfield 31, 3) := by decide +kernel
theorem dX9_copyFrom_9 : decode cX9_copyFrom 9 = .ok (.aload_n 1, 1) := by decide +kernel
theorem dX9_copyFrom_10 : decode cX9_copyFrom 10 = .ok (.getfield 38, 3) := by decide +kernel
theorem dX9_copyFrom_13 : decode cX9_copyFrom 13 = .ok (.aload_n 1, 1) := by decide +kernel
theorem dX9_copyFrom_14 : decode cX9_copyFrom 14 = .ok (.getfield 41, 3) := by decide +kernel
theorem dX9_copyFrom_17 : decode cX9_copyFrom 17 = .ok (.invokevirtual 73, 3) := by decide +kernel
theorem dX9_copyFrom_20 : decode cX9_copyFrom 20 = .ok (.aload_n 0, 1) := by decide +kernel
theorem dX9_copyFrom_21 : decode cX9_copyFrom 21 = .ok (.aload_n 1, 1) := by decide +kernel
theorem dX9_copyFrom_22 : decode cX9_copyFrom 22 = .ok (.getfield 34, 3) := by decide +kernel
theorem dX9_copyFrom_25 : decode cX9_copyFrom 25 = .ok (.putfield 34, 3) := by decide +kernel
theorem dX9_copyFrom_28 : decode cX9_copyFrom 28 = .ok (.aload_n 0, 1) := by decide +kernel
theorem dX9_copyFrom_29 : decode cX9_copyFrom 29 = .ok (.aload_n 1, 1) := by decide +kernel
theorem dX9_copyFrom_30 : decode cX9_copyFrom 30 = .ok (.getfield 24, 3) := by decide +kernel
theorem dX9_copyFrom_33 : decode cX9_copyFrom 33 = .ok (.putfield 24, 3) := by decide +kernel
theorem dX9_copyFrom_36 : decode cX9_copyFrom 36 = .ok (.iconst 0, 1) := by decide +kernel
theorem dX9_copyFrom_37 : decode cX9_copyFrom 37 = .ok (.istore_n 2, 1) := by decide +kernel
theorem dX9_copyFrom_38 : decode cX9_copyFrom 38 = .ok (.iload_n 2, 1) := by decide +kernel
theorem dX9_copyFrom_39 : decode cX9_copyFrom 39 = .ok (.aload_n 0, 1) := by decide +kernel
theorem dX9_copyFrom_40 : decode cX9_copyFrom 40 = .ok (.getfield 24, 3) := by decide +kernel
theorem dX9_copyFrom_43 : decode cX9_copyFrom 43 = .ok (.if_icmp .ge 57, 3) := by decide +kernel
theorem dX9_copyFrom_46 : decode cX9_copyFrom 46 = .ok (.aload_n 0, 1) := by decide +kernel
theorem dX9_copyFrom_47 : decode cX9_copyFrom 47 = .ok (.getfield 9, 3) := by decide +kernel
theorem dX9_copyFrom_50 : decode cX9_copyFrom 50 = .ok (.iload_n 2, 1) := by decide +kernel
theorem dX9_copyFrom_51 : decode cX9_copyFrom 51 = .ok (.aload_n 1, 1) := by decide +kernel
theorem dX9_copyFrom_52 : decode cX9_copyFrom 52 = .ok (.getfield 9, 3) := by decide +kernel
theorem dX9_copyFrom_55 : decode cX9_copyFrom 55 = .ok (.iload_n 2, 1) := by decide +kernel
theorem dX9_copyFrom_56 : decode cX9_copyFrom 56 = .ok (.iaload, 1) := by decide +kernel
theorem dX9_copyFrom_57 : decode cX9_copyFrom 57 = .ok (.iastore, 1) := by decide +kernel
theorem dX9_copyFrom_58 : decode cX9_copyFrom 58 = .ok (.aload_n 0, 1) := by decide +kernel
theorem dX9_copyFrom_59 : decode cX9_copyFrom 59 = .ok (.getfield 15, 3) := by decide +kernel
theorem dX9_copyFrom_62 : decode cX9_copyFrom 62 = .ok (.iload_n 2, 1) := by decide +kernel
theorem dX9_copyFrom_63 : decode cX9_copyFrom 63 = .ok (.aload_n 1, 1) := by decide +kernel
theorem dX9_copyFrom_64 : decode cX9_copyFrom 64 = .ok (.getfield 15, 3) := by decide +kernel
theorem dX9_copyFrom_67 : decode cX9_copyFrom 67 = .ok (.iload_n 2, 1) := by decide +kernel
theorem dX9_copyFrom_68 : decode cX9_copyFrom 68 = .ok (.iaload, 1) := by decide +kernel
theorem dX9_copyFrom_69 : decode cX9_copyFrom 69 = .ok (.iastore, 1) := by decide +kernel
theorem dX9_copyFrom_70 : decode cX9_copyFrom 70 = .ok (.aload_n 0, 1) := by decide +kernel
theorem dX9_copyFrom_71 : decode cX9_copyFrom 71 = .ok (.getfield 18, 3) := by decide +kernel
theorem dX9_copyFrom_74 : decode cX9_copyFrom 74 = .ok (.iload_n 2, 1) := by decide +kernel
theorem dX9_copyFrom_75 : decode cX9_copyFrom 75 = .ok (.aload_n 1, 1) := by decide +kernel
theorem dX9_copyFrom_76 : decode cX9_copyFrom 76 = .ok (.getfield 18, 3) := by decide +kernel
theorem dX9_copyFrom_79 : decode cX9_copyFrom 79 = .ok (.iload_n 2, 1) := by decide +kernel
theorem dX9_copyFrom_80 : decode cX9_copyFrom 80 = .ok (.iaload, 1) := by decide +kernel
theorem dX9_copyFrom_81 : decode cX9_copyFrom 81 = .ok (.iastore, 1) := by decide +kernel
theorem dX9_copyFrom_82 : decode cX9_copyFrom 82 = .ok (.aload_n 0, 1) := by decide +kernel
theorem dX9_copyFrom_83 : decode cX9_copyFrom 83 = .ok (.getfield 21, 3) := by decide +kernel
theorem dX9_copyFrom_86 : decode cX9_copyFrom 86 = .ok (.iload_n 2, 1) := by decide +kernel
theorem dX9_copyFrom_87 : decode cX9_copyFrom 87 = .ok (.aload_n 1, 1) := by decide +kernel
theorem dX9_copyFrom_88 : decode cX9_copyFrom 88 = .ok (.getfield 21, 3) := by decide +kernel
theorem dX9_copyFrom_91 : decode cX9_copyFrom 91 = .ok (.iload_n 2, 1) := by decide +kernel
theorem dX9_copyFrom_92 : decode cX9_copyFrom 92 = .ok (.iaload, 1) := by decide +kernel
theorem dX9_copyFrom_93 : decode cX9_copyFrom 93 = .ok (.iastore, 1) := by decide +kernel
theorem dX9_copyFrom_94 : decode cX9_copyFrom 94 = .ok (.iinc 2 1, 3) := by decide +kernel
theorem dX9_copyFrom_97 : decode cX9_copyFrom 97 = .ok (.goto (-59), 3) := by decide +kernel
theorem dX9_copyFrom_100 : decode cX9_copyFrom 100 = .ok (.return_, 1) := by decide +kernel
theorem dX10_init_0 : decode cX10_init 0 = .ok (.aload_n 0, 1) := by decide +kernel
theorem dX10_init_1 : decode cX10_init 1 = .ok (.invokespecial 3, 3) := by decide +kernel
theorem dX10_init_4 : decode cX10_init 4 = .ok (.aload_n 0, 1) := by decide +kernel
theorem dX10_init_5 : decode cX10_init 5 = .ok (.iconst 5, 1) := by decide +kernel
theorem dX10_init_6 : decode cX10_init 6 = .ok (.anewarray 9, 3) := by decide +kernel
theorem dX10_init_9 : decode cX10_init 9 = .ok (.putfield 11, 3) := by decide +kernel
theorem dX10_init_12 : decode cX10_init 12 = .ok (.aload_n 0, 1) := by decide +kernel
theorem dX10_init_13 : decode cX10_init 13 = .ok (.iconst 5, 1) := by decide +kernel
theorem dX10_init_14 : decode cX10_init 14 = .ok (.newarray .boolean, 2) := by decide +kernel
theorem dX10_init_16 : decode cX10_init 16 = .ok (.putfield 17, 3) := by decide +kernel
theorem dX10_init_19 : decode cX10_init 19 = .ok (.aload_n 0, 1) := by decide +kernel
theorem dX10_init_20 : decode cX10_init 20 = .ok (.iconst 5, 1) := by decide +kernel
theorem dX10_init_21 : decode cX10_init 21 = .ok (.newarray .int, 2) := by decide +kernel
theorem dX10_init_23 : decode cX10_init 23 = .ok (.putfield 21, 3) := by decide +kernel
theorem dX10_init_26 : decode cX10_init 26 = .ok (.iconst 0, 1) := by decide +kernel
theorem dX10_init_27 : decode cX10_init 27 = .ok (.istore_n 1, 1) := by decide +kernel
theorem dX10_init_28 : decode cX10_init 28 = .ok (.iload_n 1, 1) := by decide +kernel
theorem dX10_init_29 : decode cX10_init 29 = .ok (.iconst 5, 1) := by decide +kernel
theorem dX10_init_30 : decode cX10_init 30 = .ok (.if_icmp .ge 22, 3) := by decide +kernel
theorem dX10_init_33 : decode cX10_init 33 = .ok (.aload_n 0, 1) := by decide +kernel
theorem dX10_init_34 : decode cX10_init 34 = .ok (.getfield 11, 3) := by decide +kernel
theorem dX10_init_37 : decode cX10_init 37 = .ok (.iload_n 1, 1) := by decide +kernel
theorem dX10_init_38 : decode cX10_init 38 = .ok (.new 9, 3) := by decide +kernel
theorem dX10_init_41 : decode cX10_init 41 = .ok (.dup, 1) := by decide +kernel
theorem dX10_init_42 : decode cX10_init 42 = .ok (.invokespecial 25, 3) := by decide +kernel
theorem dX10_init_45 : decode cX10_init 45 = .ok (.aastore, 1) := by decide +kernel
theorem dX10_init_46 : decode cX10_init 46 = .ok (.iinc 1 1, 3) := by decide +kernel
theorem dX10_init_49 : decode cX10_init 49 = .ok (.goto (-21), 3) := by decide +kernel
theorem dX10_init_52 : decode cX10_init 52 = .ok (.return_, 1) := by decide +kernel
theorem dX10_at_0 : decode cX10_at 0 = .ok (.iload_n 1, 1) := by decide +kernel
theorem dX10_at_1 : decode cX10_at 1 = .ok (.ifCond .lt 20, 3) := by decide +kernel
theorem dX10_at_4 : decode cX10_at 4 = .ok (.iload_n 1, 1) := by decide +kernel
theorem dX10_at_5 : decode cX10_at 5 = .ok (.aload_n 0, 1) := by decide +kernel
theorem dX10_at_6 : decode cX10_at 6 = .ok (.getfield 26, 3) := by decide +kernel
theorem dX10_at_9 : decode cX10_at 9 = .ok (.if_icmp .ge 12, 3) := by decide +kernel
theorem dX10_at_12 : decode cX10_at 12 = .ok (.aload_n 0, 1) := by decide +kernel
theorem dX10_at_13 : decode cX10_at 13 = .ok (.getfield 11, 3) := by decide +kernel
theorem dX10_at_16 : decode cX10_at 16 = .ok (.iload_n 1, 1) := by decide +kernel
theorem dX10_at_17 : decode cX10_at 17 = .ok (.aaload, 1) := by decide +kernel
theorem dX10_at_18 : decode cX10_at 18 = .ok (.goto 4, 3) := by decide +kernel
theorem dX10_at_21 : decode cX10_at 21 = .ok (.aconst_null, 1) := by decide +kernel
theorem dX10_at_22 : decode cX10_at 22 = .ok (.areturn, 1) := by decide +kernel
theorem dX10_isFull_0 : decode cX10_isFull 0 = .ok (.aload_n 0, 1) := by decide +kernel
theorem dX10_isFull_1 : decode cX10_isFull 1 = .ok (.getfield 26, 3) := by decide +kernel
theorem dX10_isFull_4 : decode cX10_isFull 4 = .ok (.iconst 5, 1) := by decide +kernel
theorem dX10_isFull_5 : decode cX10_isFull 5 = .ok (.if_icmp .lt 7, 3) := by decide +kernel
theorem dX10_isFull_8 : decode cX10_isFull 8 = .ok (.iconst 1, 1) := by decide +kernel
theorem dX10_isFull_9 : decode cX10_isFull 9 = .ok (.goto 4, 3) := by decide +kernel
theorem dX10_isFull_12 : decode cX10_isFull 12 = .ok (.iconst 0, 1) := by decide +kernel
theorem dX10_isFull_13 : decode cX10_isFull 13 = .ok (.ireturn, 1) := by decide +kernel
theorem dX10_addOne_0 : decode cX10_addOne 0 = .ok (.aload_n 0, 1) := by decide +kernel
theorem dX10_addOne_1 : decode cX10_addOne 1 = .ok (.invokevirtual 30, 3) := by decide +kernel
theorem dX10_addOne_4 : decode cX10_addOne 4 = .ok (.ifCond .eq 5, 3) := by decide +kernel
theorem dX10_addOne_7 : decode cX10_addOne 7 = .ok (.aconst_null, 1) := by decide +kernel
theorem dX10_addOne_8 : decode cX10_addOne 8 = .ok (.areturn, 1) := by decide +kernel
theorem dX10_addOne_9 : decode cX10_addOne 9 = .ok (.aload_n 0, 1) := by decide +kernel
theorem dX10_addOne_10 : decode cX10_addOne 10 = .ok (.dup, 1) := by decide +kernel
theorem dX10_addOne_11 : decode cX10_addOne 11 = .ok (.getfield 26, 3) := by decide +kernel
theorem dX10_addOne_14 : decode cX10_addOne 14 = .ok (.iconst 1, 1) := by decide +kernel
theorem dX10_addOne_15 : decode cX10_addOne 15 = .ok (.iadd, 1) := by decide +kernel
theorem dX10_addOne_16 : decode cX10_addOne 16 = .ok (.putfield 26, 3) := by decide +kernel
theorem dX10_addOne_19 : decode cX10_addOne 19 = .ok (.aload_n 0, 1) := by decide +kernel
theorem dX10_addOne_20 : decode cX10_addOne 20 = .ok (.getfield 11, 3) := by decide +kernel
theorem dX10_addOne_23 : decode cX10_addOne 23 = .ok (.aload_n 0, 1) := by decide +kernel
theorem dX10_addOne_24 : decode cX10_addOne 24 = .ok (.getfield 26, 3) := by decide +kernel
theorem dX10_addOne_27 : decode cX10_addOne 27 = .ok (.iconst 1, 1) := by decide +kernel
theorem dX10_addOne_28 : decode cX10_addOne 28 = .ok (.isub, 1) := by decide +kernel
theorem dX10_addOne_29 : decode cX10_addOne 29 = .ok (.aaload, 1) := by decide +kernel
theorem dX10_addOne_30 : decode cX10_addOne 30 = .ok (.areturn, 1) := by decide +kernel
theorem dX10_clear_0 : decode cX10_clear 0 = .ok (.aload_n 0, 1) := by decide +kernel
theorem dX10_clear_1 : decode cX10_clear 1 = .ok (.iconst 0, 1) := by decide +kernel
theorem dX10_clear_2 : decode cX10_clear 2 = .ok (.putfield 26, 3) := by decide +kernel
theorem dX10_clear_5 : decode cX10_clear 5 = .ok (.return_, 1) := by decide +kernel
theorem dX10_markFamily_0 : decode cX10_markFamily 0 = .ok (.iconst 0, 1) := by decide +kernel
theorem dX10_markFamily_1 : decode cX10_markFamily 1 = .ok (.istore_n 2, 1) := by decide +kernel
theorem dX10_markFamily_2 : decode cX10_markFamily 2 = .ok (.iconst 0, 1) := by decide +kernel
theorem dX10_markFamily_3 : decode cX10_markFamily 3 = .ok (.istore_n 3, 1) := by decide +kernel
theorem dX10_markFamily_4 : decode cX10_markFamily 4 = .ok (.iload_n 3, 1) := by decide +kernel
theorem dX10_markFamily_5 : decode cX10_markFamily 5 = .ok (.aload_n 0, 1) := by decide +kernel
theorem dX10_markFamily_6 : decode cX10_markFamily 6 = .ok (.getfield 26, 3) := by decide +kernel
theorem dX10_markFamily_9 : decode cX10_markFamily 9 = .ok (.if_icmp .ge 69, 3) := by decide +kernel
theorem dX10_markFamily_12 : decode cX10_markFamily 12 = .ok (.aload_n 0, 1) := by decide +kernel
theorem dX10_markFamily_13 : decode cX10_markFamily 13 = .ok (.getfield 11, 3) := by decide +kernel
theorem dX10_markFamily_16 : decode cX10_markFamily 16 = .ok (.iload_n 3, 1) := by decide +kernel
theorem dX10_markFamily_17 : decode cX10_markFamily 17 = .ok (.aaload, 1) := by decide +kernel
theorem dX10_markFamily_18 : decode cX10_markFamily 18 = .ok (.getfield 34, 3) := by decide +kernel
theorem dX10_markFamily_21 : decode cX10_markFamily 21 = .ok (.istore 4, 2) := by decide +kernel
theorem dX10_markFamily_23 : decode cX10_markFamily 23 = .ok (.aload_n 0, 1) := by decide +kernel
theorem dX10_markFamily_24 : decode cX10_markFamily 24 = .ok (.getfield 17, 3) := by decide +kernel
theorem dX10_markFamily_27 : decode cX10_markFamily 27 = .ok (.iload_n 3, 1) := by decide +kernel
theorem dX10_markFamily_28 : decode cX10_markFamily 28 = .ok (.iload_n 3, 1) := by decide +kernel
theorem dX10_markFamily_29 : decode cX10_markFamily 29 = .ok (.iload_n 1, 1) := by decide +kernel
theorem dX10_markFamily_30 : decode cX10_markFamily 30 = .ok (.if_icmp .eq 24, 3) := by decide +kernel
theorem dX10_markFamily_33 : decode cX10_markFamily 33 = .ok (.iload 4, 2) := by decide +kernel
theorem dX10_markFamily_35 : decode cX10_markFamily 35 = .ok (.ifCond .lt 23, 3) := by decide +kernel
theorem dX10_markFamily_38 : decode cX10_markFamily 38 = .ok (.iload 4, 2) := by decide +kernel
theorem dX10_markFamily_40 : decode cX10_markFamily 40 = .ok (.iload_n 3, 1) := by decide +kernel
theorem dX10_markFamily_41 : decode cX10_markFamily 41 = .ok (.if_icmp .ge 17, 3) := by decide +kernel
theorem dX10_markFamily_44 : decode cX10_markFamily 44 = .ok (.aload_n 0, 1) := by decide +kernel
theorem dX10_markFamily_45 : decode cX10_markFamily 45 = .ok (.getfield 17, 3) := by decide +kernel
theorem dX10_markFamily_48 : decode cX10_markFamily 48 = .ok (.iload 4, 2) := by decide +kernel
theorem dX10_markFamily_50 : decode cX10_markFamily 50 = .ok (.baload, 1) := by decide +kernel
theorem dX10_markFamily_51 : decode cX10_markFamily 51 = .ok (.ifCond .eq 7, 3) := by decide +kernel
theorem dX10_markFamily_54 : decode cX10_markFamily 54 = .ok (.iconst 1, 1) := by decide +kernel
theorem dX10_markFamily_55 : decode cX10_markFamily 55 = .ok (.goto 4, 3) := by decide +kernel
theorem dX10_markFamily_58 : decode cX10_markFamily 58 = .ok (.iconst 0, 1) := by decide +kernel
theorem dX10_markFamily_59 : decode cX10_markFamily 59 = .ok (.bastore, 1) := by decide +kernel
theorem dX10_markFamily_60 : decode cX10_markFamily 60 = .ok (.aload_n 0, 1) := by decide +kernel
theorem dX10_markFamily_61 : decode cX10_markFamily 61 = .ok (.getfield 17, 3) := by decide +kernel
theorem dX10_markFamily_64 : decode cX10_markFamily 64 = .ok (.iload_n 3, 1) := by decide +kernel
theorem dX10_markFamily_65 : decode cX10_markFamily 65 = .ok (.baload, 1) := by decide +kernel
theorem dX10_markFamily_66 : decode cX10_markFamily 66 = .ok (.ifCond .eq 6, 3) := by decide +kernel
theorem dX10_markFamily_69 : decode cX10_markFamily 69 = .ok (.iinc 2 1, 3) := by decide +kernel
theorem dX10_markFamily_72 : decode cX10_markFamily 72 = .ok (.iinc 3 1, 3) := by decide +kernel
theorem dX10_markFamily_75 : decode cX10_markFamily 75 = .ok (.goto (-71), 3) := by decide +kernel
theorem dX10_markFamily_78 : decode cX10_markFamily 78 = .ok (.iload_n 2, 1) := by decide +kernel
theorem dX10_markFamily_79 : decode cX10_markFamily 79 = .ok (.ireturn, 1) := by decide +kernel
theorem dX10_removeFamily_0 : decode cX10_removeFamily 0 = .ok (.aload_n 0, 1) := by decide +kernel
theorem dX10_removeFamily_1 : decode cX10_removeFamily 1 = .ok (.iload_n 1, 1) := by decide +kernel
theorem dX10_removeFamily_2 : decode cX10_removeFamily 2 = .ok (.invokevirtual 37, 3) := by decide +kernel
theorem dX10_removeFamily_5 : decode cX10_removeFamily 5 = .ok (.pop, 1) := by decide +kernel
theorem dX10_removeFamily_6 : decode cX10_removeFamily 6 = .ok (.iconst 0, 1) := by decide +kernel
theorem dX10_removeFamily_7 : decode cX10_removeFamily 7 = .ok (.istore_n 2, 1) := by decide +kernel
theorem dX10_removeFamily_8 : decode cX10_removeFamily 8 = .ok (.iconst 0, 1) := by decide +kernel
theorem dX10_removeFamily_9 : decode cX10_removeFamily 9 = .ok (.istore_n 3, 1) := by decide +kernel
theorem dX10_removeFamily_10 : decode cX10_removeFamily 10 = .ok (.iload_n 3, 1) := by decide +kernel
theorem dX10_removeFamily_11 : decode cX10_removeFamily 11 = .ok (.aload_n 0, 1) := by decide +kernel
theorem dX10_removeFamily_12 : decode cX10_removeFamily 12 = .ok (.getfield 26, 3) := by decide +kernel
theorem dX10_removeFamily_15 : decode cX10_removeFamily 15 = .ok (.if_icmp .ge 91, 3) := by decide +kernel
theorem dX10_removeFamily_18 : decode cX10_removeFamily 18 = .ok (.aload_n 0, 1) := by decide +kernel
theorem dX10_removeFamily_19 : decode cX10_removeFamily 19 = .ok (.getfield 17, 3) := by decide +kernel
theorem dX10_removeFamily_22 : decode cX10_removeFamily 22 = .ok (.iload_n 3, 1) := by decide +kernel
theorem dX10_removeFamily_23 : decode cX10_removeFamily 23 = .ok (.baload, 1) := by decide +kernel
theorem dX10_removeFamily_24 : decode cX10_removeFamily 24 = .ok (.ifCond .eq 6, 3) := by decide +kernel
theorem dX10_removeFamily_27 : decode cX10_removeFamily 27 = .ok (.goto 73, 3) := by decide +kernel
theorem dX10_removeFamily_30 : decode cX10_removeFamily 30 = .ok (.aload_n 0, 1) := by decide +kernel
theorem dX10_removeFamily_31 : decode cX10_removeFamily 31 = .ok (.getfield 21, 3) := by decide +kernel
theorem dX10_removeFamily_34 : decode cX10_removeFamily 34 = .ok (.iload_n 3, 1) := by decide +kernel
theorem dX10_removeFamily_35 : decode cX10_removeFamily 35 = .ok (.iload_n 2, 1) := by decide +kernel
theorem dX10_removeFamily_36 : decode cX10_removeFamily 36 = .ok (.iastore, 1) := by decide +kernel
theorem dX10_removeFamily_37 : decode cX10_removeFamily 37 = .ok (.aload_n 0, 1) := by decide +kernel
theorem dX10_removeFamily_38 : decode cX10_removeFamily 38 = .ok (.getfield 11, 3) := by decide +kernel
theorem dX10_removeFamily_41 : decode cX10_removeFamily 41 = .ok (.iload_n 3, 1) := by decide +kernel
theorem dX10_removeFamily_42 : decode cX10_removeFamily 42 = .ok (.aaload, 1) := by decide +kernel
theorem dX10_removeFamily_43 : decode cX10_removeFamily 43 = .ok (.astore 4, 2) := by decide +kernel
theorem dX10_removeFamily_45 : decode cX10_removeFamily 45 = .ok (.aload 4, 2) := by decide +kernel
theorem dX10_removeFamily_47 : decode cX10_removeFamily 47 = .ok (.getfield 34, 3) := by decide +kernel
theorem dX10_removeFamily_50 : decode cX10_removeFamily 50 = .ok (.ifCond .lt 27, 3) := by decide +kernel
theorem dX10_removeFamily_53 : decode cX10_removeFamily 53 = .ok (.aload 4, 2) := by decide +kernel
theorem dX10_removeFamily_55 : decode cX10_removeFamily 55 = .ok (.getfield 34, 3) := by decide +kernel
theorem dX10_removeFamily_58 : decode cX10_removeFamily 58 = .ok (.iload_n 3, 1) := by decide +kernel
theorem dX10_removeFamily_59 : decode cX10_removeFamily 59 = .ok (.if_icmp .ge 18, 3) := by decide +kernel
theorem dX10_removeFamily_62 : decode cX10_removeFamily 62 = .ok (.aload 4, 2) := by decide +kernel
theorem dX10_removeFamily_64 : decode cX10_removeFamily 64 = .ok (.aload_n 0, 1) := by decide +kernel
theorem dX10_removeFamily_65 : decode cX10_removeFamily 65 = .ok (.getfield 21, 3) := by decide +kernel
theorem dX10_removeFamily_68 : decode cX10_removeFamily 68 = .ok (.aload 4, 2) := by decide +kernel
theorem dX10_removeFamily_70 : decode cX10_removeFamily 70 = .ok (.getfield 34, 3) := by decide +kernel
theorem dX10_removeFamily_73 : decode cX10_removeFamily 73 = .ok (.iaload, 1) := by decide +kernel
theorem dX10_removeFamily_74 : decode cX10_removeFamily 74 = .ok (.putfield 34, 3) := by decide +kernel
theorem dX10_removeFamily_77 : decode cX10_removeFamily 77 = .ok (.aload_n 0, 1) := by decide +kernel
theorem dX10_removeFamily_78 : decode cX10_removeFamily 78 = .ok (.getfield 11, 3) := by decide +kernel
theorem dX10_removeFamily_81 : decode cX10_removeFamily 81 = .ok (.iload_n 3, 1) := by decide +kernel
theorem dX10_removeFamily_82 : decode cX10_removeFamily 82 = .ok (.aload_n 0, 1) := by decide +kernel
theorem dX10_removeFamily_83 : decode cX10_removeFamily 83 = .ok (.getfield 11, 3) := by decide +kernel
theorem dX10_removeFamily_86 : decode cX10_removeFamily 86 = .ok (.iload_n 2, 1) := by decide +kernel
theorem dX10_removeFamily_87 : decode cX10_removeFamily 87 = .ok (.aaload, 1) := by decide +kernel
theorem dX10_removeFamily_88 : decode cX10_removeFamily 88 = .ok (.aastore, 1) := by decide +kernel
theorem dX10_removeFamily_89 : decode cX10_removeFamily 89 = .ok (.aload_n 0, 1) := by decide +kernel
theorem dX10_removeFamily_90 : decode cX10_removeFamily 90 = .ok (.getfield 11, 3) := by decide +kernel
theorem dX10_removeFamily_93 : decode cX10_removeFamily 93 = .ok (.iload_n 2, 1) := by decide +kernel
theorem dX10_removeFamily_94 : decode cX10_removeFamily 94 = .ok (.aload 4, 2) := by decide +kernel
theorem dX10_removeFamily_96 : decode cX10_removeFamily 96 = .ok (.aastore, 1) := by decide +kernel
theorem dX10_removeFamily_97 : decode cX10_removeFamily 97 = .ok (.iinc 2 1, 3) := by decide +kernel
theorem dX10_removeFamily_100 : decode cX10_removeFamily 100 = .ok (.iinc 3 1, 3) := by decide +kernel
theorem dX10_removeFamily_103 : decode cX10_removeFamily 103 = .ok (.goto (-93), 3) := by decide +kernel
theorem dX10_removeFamily_106 : decode cX10_removeFamily 106 = .ok (.aload_n 0, 1) := by decide +kernel
theorem dX10_removeFamily_107 : decode cX10_removeFamily 107 = .ok (.iload_n 2, 1) := by decide +kernel
theorem dX10_removeFamily_108 : decode cX10_removeFamily 108 = .ok (.putfield 26, 3) := by decide +kernel
theorem dX10_removeFamily_111 : decode cX10_removeFamily 111 = .ok (.return_, 1) := by decide +kernel
theorem dX10_places_0 : decode cX10_places 0 = .ok (.iconst 0, 1) := by decide +kernel
theorem dX10_places_1 : decode cX10_places 1 = .ok (.istore_n 1, 1) := by decide +kernel
theorem dX10_places_2 : decode cX10_places 2 = .ok (.iconst 0, 1) := by decide +kernel
theorem dX10_places_3 : decode cX10_places 3 = .ok (.istore_n 2, 1) := by decide +kernel
theorem dX10_places_4 : decode cX10_places 4 = .ok (.iload_n 2, 1) := by decide +kernel
theorem dX10_places_5 : decode cX10_places 5 = .ok (.aload_n 0, 1) := by decide +kernel
theorem dX10_places_6 : decode cX10_places 6 = .ok (.getfield 26, 3) := by decide +kernel
theorem dX10_places_9 : decode cX10_places 9 = .ok (.if_icmp .ge 21, 3) := by decide +kernel
theorem dX10_places_12 : decode cX10_places 12 = .ok (.iload_n 1, 1) := by decide +kernel
theorem dX10_places_13 : decode cX10_places 13 = .ok (.aload_n 0, 1) := by decide +kernel
theorem dX10_places_14 : decode cX10_places 14 = .ok (.getfield 11, 3) := by decide +kernel
theorem dX10_places_17 : decode cX10_places 17 = .ok (.iload_n 2, 1) := by decide +kernel
theorem dX10_places_18 : decode cX10_places 18 = .ok (.aaload, 1) := by decide +kernel
theorem dX10_places_19 : decode cX10_places 19 = .ok (.getfield 41, 3) := by decide +kernel
theorem dX10_places_22 : decode cX10_places 22 = .ok (.iadd, 1) := by decide +kernel
theorem dX10_places_23 : decode cX10_places 23 = .ok (.istore_n 1, 1) := by decide +kernel
theorem dX10_places_24 : decode cX10_places 24 = .ok (.iinc 2 1, 3) := by decide +kernel
theorem dX10_places_27 : decode cX10_places 27 = .ok (.goto (-23), 3) := by decide +kernel
theorem dX10_places_30 : decode cX10_places 30 = .ok (.iload_n 1, 1) := by decide +kernel
theorem dX10_places_31 : decode cX10_places 31 = .ok (.ireturn, 1) := by decide +kernel
theorem dX10_placesOfKind_0 : decode cX10_placesOfKind 0 = .ok (.iconst 0, 1) := by decide +kernel
theorem dX10_placesOfKind_1 : decode cX10_placesOfKind 1 = .ok (.istore_n 2, 1) := by decide +kernel
theorem dX10_placesOfKind_2 : decode cX10_placesOfKind 2 = .ok (.iconst 0, 1) := by decide +kernel
theorem dX10_placesOfKind_3 : decode cX10_placesOfKind 3 = .ok (.istore_n 3, 1) := by decide +kernel
theorem dX10_placesOfKind_4 : decode cX10_placesOfKind 4 = .ok (.iload_n 3, 1) := by decide +kernel
theorem dX10_placesOfKind_5 : decode cX10_placesOfKind 5 = .ok (.aload_n 0, 1) := by decide +kernel
theorem dX10_placesOfKind_6 : decode cX10_placesOfKind 6 = .ok (.getfield 26, 3) := by decide +kernel
theorem dX10_placesOfKind_9 : decode cX10_placesOfKind 9 = .ok (.if_icmp .ge 22, 3) := by decide +kernel
theorem dX10_placesOfKind_12 : decode cX10_placesOfKind 12 = .ok (.iload_n 2, 1) := by decide +kernel
theorem dX10_placesOfKind_13 : decode cX10_placesOfKind 13 = .ok (.aload_n 0, 1) := by decide +kernel
theorem dX10_placesOfKind_14 : decode cX10_placesOfKind 14 = .ok (.getfield 11, 3) := by decide +kernel
theorem dX10_placesOfKind_17 : decode cX10_placesOfKind 17 = .ok (.iload_n 3, 1) := by decide +kernel
theorem dX10_placesOfKind_18 : decode cX10_placesOfKind 18 = .ok (.aaload, 1) := by decide +kernel
theorem dX10_placesOfKind_19 : decode cX10_placesOfKind 19 = .ok (.iload_n 1, 1) := by decide +kernel
theorem dX10_placesOfKind_20 : decode cX10_placesOfKind 20 = .ok (.invokevirtual 42, 3) := by decide +kernel
theorem dX10_placesOfKind_23 : decode cX10_placesOfKind 23 = .ok (.iadd, 1) := by decide +kernel
theorem dX10_placesOfKind_24 : decode cX10_placesOfKind 24 = .ok (.istore_n 2, 1) := by decide +kernel
theorem dX10_placesOfKind_25 : decode cX10_placesOfKind 25 = .ok (.iinc 3 1, 3) := by decide +kernel
theorem dX10_placesOfKind_28 : decode cX10_placesOfKind 28 = .ok (.goto (-24), 3) := by decide +kernel
theorem dX10_placesOfKind_31 : decode cX10_placesOfKind 31 = .ok (.iload_n 2, 1) := by decide +kernel
theorem dX10_placesOfKind_32 : decode cX10_placesOfKind 32 = .ok (.ireturn, 1) := by decide +kernel
theorem dX10_copyFrom_0 : decode cX10_copyFrom 0 = .ok (.aload_n 0, 1) := by decide +kernel
theorem dX10_copyFrom_1 : decode cX10_copyFrom 1 = .ok (.aload_n 1, 1) := by decide +kernel
theorem dX10_copyFrom_2 : decode cX10_copyFrom 2 = .ok (.getfield 26, 3) := by decide +kernel
theorem dX10_copyFrom_5 : decode cX10_copyFrom 5 = .ok (.putfield 26, 3) := by decide +kernel
theorem dX10_copyFrom_8 : decode cX10_copyFrom 8 = .ok (.iconst 0, 1) := by decide +kernel
theorem dX10_copyFrom_9 : decode cX10_copyFrom 9 = .ok (.istore_n 2, 1) := by decide +kernel
theorem dX10_copyFrom_10 : decode cX10_copyFrom 10 = .ok (.iload_n 2, 1) := by decide +kernel
theorem dX10_copyFrom_11 : decode cX10_copyFrom 11 = .ok (.aload_n 0, 1) := by decide +kernel
theorem dX10_copyFrom_12 : decode cX10_copyFrom 12 = .ok (.getfield 26, 3) := by decide +kernel
theorem dX10_copyFrom_15 : decode cX10_copyFrom 15 = .ok (.if_icmp .ge 24, 3) := by decide +kernel
theorem dX10_copyFrom_18 : decode cX10_copyFrom 18 = .ok (.aload_n 0, 1) := by decide +kernel
theorem dX10_copyFrom_19 : decode cX10_copyFrom 19 = .ok (.getfield 11, 3) := by decide +kernel
theorem dX10_copyFrom_22 : decode cX10_copyFrom 22 = .ok (.iload_n 2, 1) := by decide +kernel
theorem dX10_copyFrom_23 : decode cX10_copyFrom 23 = .ok (.aaload, 1) := by decide +kernel
theorem dX10_copyFrom_24 : decode cX10_copyFrom 24 = .ok (.aload_n 1, 1) := by decide +kernel
theorem dX10_copyFrom_25 : decode cX10_copyFrom 25 = .ok (.getfield 11, 3) := by decide +kernel
theorem dX10_copyFrom_28 : decode cX10_copyFrom 28 = .ok (.iload_n 2, 1) := by decide +kernel
theorem dX10_copyFrom_29 : decode cX10_copyFrom 29 = .ok (.aaload, 1) := by decide +kernel
theorem dX10_copyFrom_30 : decode cX10_copyFrom 30 = .ok (.invokevirtual 45, 3) := by decide +kernel
theorem dX10_copyFrom_33 : decode cX10_copyFrom 33 = .ok (.iinc 2 1, 3) := by decide +kernel
theorem dX10_copyFrom_36 : decode cX10_copyFrom 36 = .ok (.goto (-26), 3) := by decide +kernel
theorem dX10_copyFrom_39 : decode cX10_copyFrom 39 = .ok (.return_, 1) := by decide +kernel
theorem dX11_init_0 : decode cX11_init 0 = .ok (.aload_n 0, 1) := by decide +kernel
theorem dX11_init_1 : decode cX11_init 1 = .ok (.invokespecial 1, 3) := by decide +kernel
theorem dX11_init_4 : decode cX11_init 4 = .ok (.aload_n 0, 1) := by decide +kernel
theorem dX11_init_5 : decode cX11_init 5 = .ok (.new 7, 3) := by decide +kernel
theorem dX11_init_8 : decode cX11_init 8 = .ok (.dup, 1) := by decide +kernel
theorem dX11_init_9 : decode cX11_init 9 = .ok (.invokespecial 9, 3) := by decide +kernel
theorem dX11_init_12 : decode cX11_init 12 = .ok (.putfield 10, 3) := by decide +kernel
theorem dX11_init_15 : decode cX11_init 15 = .ok (.aload_n 0, 1) := by decide +kernel
theorem dX11_init_16 : decode cX11_init 16 = .ok (.new 16, 3) := by decide +kernel
theorem dX11_init_19 : decode cX11_init 19 = .ok (.dup, 1) := by decide +kernel
theorem dX11_init_20 : decode cX11_init 20 = .ok (.invokespecial 18, 3) := by decide +kernel
theorem dX11_init_23 : decode cX11_init 23 = .ok (.putfield 19, 3) := by decide +kernel
theorem dX11_init_26 : decode cX11_init 26 = .ok (.aload_n 0, 1) := by decide +kernel
theorem dX11_init_27 : decode cX11_init 27 = .ok (.new 23, 3) := by decide +kernel
theorem dX11_init_30 : decode cX11_init 30 = .ok (.dup, 1) := by decide +kernel
theorem dX11_init_31 : decode cX11_init 31 = .ok (.invokespecial 25, 3) := by decide +kernel
theorem dX11_init_34 : decode cX11_init 34 = .ok (.putfield 26, 3) := by decide +kernel
theorem dX11_init_37 : decode cX11_init 37 = .ok (.aload_n 0, 1) := by decide +kernel
theorem dX11_init_38 : decode cX11_init 38 = .ok (.new 30, 3) := by decide +kernel
theorem dX11_init_41 : decode cX11_init 41 = .ok (.dup, 1) := by decide +kernel
theorem dX11_init_42 : decode cX11_init 42 = .ok (.invokespecial 32, 3) := by decide +kernel
theorem dX11_init_45 : decode cX11_init 45 = .ok (.putfield 33, 3) := by decide +kernel
theorem dX11_init_48 : decode cX11_init 48 = .ok (.aload_n 0, 1) := by decide +kernel
theorem dX11_init_49 : decode cX11_init 49 = .ok (.new 37, 3) := by decide +kernel
theorem dX11_init_52 : decode cX11_init 52 = .ok (.dup, 1) := by decide +kernel
theorem dX11_init_53 : decode cX11_init 53 = .ok (.invokespecial 39, 3) := by decide +kernel
theorem dX11_init_56 : decode cX11_init 56 = .ok (.putfield 40, 3) := by decide +kernel
theorem dX11_init_59 : decode cX11_init 59 = .ok (.return_, 1) := by decide +kernel
theorem dX11_term_0 : decode cX11_term 0 = .ok (.iload_n 1, 1) := by decide +kernel
theorem dX11_term_1 : decode cX11_term 1 = .ok (.ifCond .eq 17, 3) := by decide +kernel
theorem dX11_term_4 : decode cX11_term 4 = .ok (.iload_n 1, 1) := by decide +kernel
theorem dX11_term_5 : decode cX11_term 5 = .ok (.i2l, 1) := by decide +kernel
theorem dX11_term_6 : decode cX11_term 6 = .ok (.ldc2_w 44, 3) := by decide +kernel
theorem dX11_term_9 : decode cX11_term 9 = .ok (.ldc2_w 46, 3) := by decide +kernel
theorem dX11_term_12 : decode cX11_term 12 = .ok (.invokestatic 48, 3) := by decide +kernel
theorem dX11_term_15 : decode cX11_term 15 = .ok (.ifCond .ne 6, 3) := by decide +kernel
theorem dX11_term_18 : decode cX11_term 18 = .ok (.ldc 52, 2) := by decide +kernel
theorem dX11_term_20 : decode cX11_term 20 = .ok (.ireturn, 1) := by decide +kernel
theorem dX11_term_21 : decode cX11_term 21 = .ok (.iload_n 2, 1) := by decide +kernel
theorem dX11_term_22 : decode cX11_term 22 = .ok (.i2l, 1) := by decide +kernel
theorem dX11_term_23 : decode cX11_term 23 = .ok (.lconst 0, 1) := by decide +kernel
theorem dX11_term_24 : decode cX11_term 24 = .ok (.ldc2_w 53, 3) := by decide +kernel
theorem dX11_term_27 : decode cX11_term 27 = .ok (.invokestatic 48, 3) := by decide +kernel
theorem dX11_term_30 : decode cX11_term 30 = .ok (.ifCond .eq 22, 3) := by decide +kernel
theorem dX11_term_33 : decode cX11_term 33 = .ok (.iload_n 3, 1) := by decide +kernel
theorem dX11_term_34 : decode cX11_term 34 = .ok (.i2l, 1) := by decide +kernel
theorem dX11_term_35 : decode cX11_term 35 = .ok (.lconst 0, 1) := by decide +kernel
theorem dX11_term_36 : decode cX11_term 36 = .ok (.ldc2_w 53, 3) := by decide +kernel
theorem dX11_term_39 : decode cX11_term 39 = .ok (.invokestatic 48, 3) := by decide +kernel
theorem dX11_term_42 : decode cX11_term 42 = .ok (.ifCond .eq 10, 3) := by decide +kernel
theorem dX11_term_45 : decode cX11_term 45 = .ok (.iload_n 2, 1) := by decide +kernel
theorem dX11_term_46 : decode cX11_term 46 = .ok (.iload_n 3, 1) := by decide +kernel
theorem dX11_term_47 : decode cX11_term 47 = .ok (.iadd, 1) := by decide +kernel
theorem dX11_term_48 : decode cX11_term 48 = .ok (.iconst 3, 1) := by decide +kernel
theorem dX11_term_49 : decode cX11_term 49 = .ok (.if_icmp .le 6, 3) := by decide +kernel
theorem dX11_term_52 : decode cX11_term 52 = .ok (.ldc 52, 2) := by decide +kernel
theorem dX11_term_54 : decode cX11_term 54 = .ok (.ireturn, 1) := by decide +kernel
theorem dX11_term_55 : decode cX11_term 55 = .ok (.aload_n 0, 1) := by decide +kernel
theorem dX11_term_56 : decode cX11_term 56 = .ok (.getfield 10, 3) := by decide +kernel
theorem dX11_term_59 : decode cX11_term 59 = .ok (.getfield 55, 3) := by decide +kernel
theorem dX11_term_62 : decode cX11_term 62 = .ok (.invokevirtual 59, 3) := by decide +kernel
theorem dX11_term_65 : decode cX11_term 65 = .ok (.ifCond .eq 6, 3) := by decide +kernel
theorem dX11_term_68 : decode cX11_term 68 = .ok (.ldc 65, 2) := by decide +kernel
theorem dX11_term_70 : decode cX11_term 70 = .ok (.ireturn, 1) := by decide +kernel
theorem dX11_term_71 : decode cX11_term 71 = .ok (.aload_n 0, 1) := by decide +kernel
theorem dX11_term_72 : decode cX11_term 72 = .ok (.getfield 19, 3) := by decide +kernel
theorem dX11_term_75 : decode cX11_term 75 = .ok (.aload_n 0, 1) := by decide +kernel
theorem dX11_term_76 : decode cX11_term 76 = .ok (.getfield 10, 3) := by decide +kernel
theorem dX11_term_79 : decode cX11_term 79 = .ok (.invokevirtual 66, 3) := by decide +kernel
theorem dX11_term_82 : decode cX11_term 82 = .ok (.aload_n 0, 1) := by decide +kernel
theorem dX11_term_83 : decode cX11_term 83 = .ok (.getfield 10, 3) := by decide +kernel
theorem dX11_term_86 : decode cX11_term 86 = .ok (.getfield 70, 3) := by decide +kernel
theorem dX11_term_89 : decode cX11_term 89 = .ok (.invokevirtual 74, 3) := by decide +kernel
theorem dX11_term_92 : decode cX11_term 92 = .ok (.aload_n 0, 1) := by decide +kernel
theorem dX11_term_93 : decode cX11_term 93 = .ok (.getfield 10, 3) := by decide +kernel
theorem dX11_term_96 : decode cX11_term 96 = .ok (.getfield 55, 3) := by decide +kernel
theorem dX11_term_99 : decode cX11_term 99 = .ok (.iload_n 1, 1) := by decide +kernel
theorem dX11_term_100 : decode cX11_term 100 = .ok (.iload_n 2, 1) := by decide +kernel
theorem dX11_term_101 : decode cX11_term 101 = .ok (.iload_n 3, 1) := by decide +kernel
theorem dX11_term_102 : decode cX11_term 102 = .ok (.invokevirtual 79, 3) := by decide +kernel
theorem dX11_term_105 : decode cX11_term 105 = .ok (.aload_n 0, 1) := by decide +kernel
theorem dX11_term_106 : decode cX11_term 106 = .ok (.getfield 10, 3) := by decide +kernel
theorem dX11_term_109 : decode cX11_term 109 = .ok (.getfield 55, 3) := by decide +kernel
theorem dX11_term_112 : decode cX11_term 112 = .ok (.getfield 83, 3) := by decide +kernel
theorem dX11_term_115 : decode cX11_term 115 = .ok (.ireturn, 1) := by decide +kernel
theorem dX11_dropTerm_0 : decode cX11_dropTerm 0 = .ok (.iload_n 1, 1) := by decide +kernel
theorem dX11_dropTerm_1 : decode cX11_dropTerm 1 = .ok (.ifCond .ge 6, 3) := by decide +kernel
theorem dX11_dropTerm_4 : decode cX11_dropTerm 4 = .ok (.ldc 52, 2) := by decide +kernel
theorem dX11_dropTerm_6 : decode cX11_dropTerm 6 = .ok (.ireturn, 1) := by decide +kernel
theorem dX11_dropTerm_7 : decode cX11_dropTerm 7 = .ok (.aload_n 0, 1) := by decide +kernel
theorem dX11_dropTerm_8 : decode cX11_dropTerm 8 = .ok (.getfield 10, 3) := by decide +kernel
theorem dX11_dropTerm_11 : decode cX11_dropTerm 11 = .ok (.getfield 55, 3) := by decide +kernel
theorem dX11_dropTerm_14 : decode cX11_dropTerm 14 = .ok (.iload_n 1, 1) := by decide +kernel
theorem dX11_dropTerm_15 : decode cX11_dropTerm 15 = .ok (.invokevirtual 87, 3) := by decide +kernel
theorem dX11_dropTerm_18 : decode cX11_dropTerm 18 = .ok (.ifCond .ne 6, 3) := by decide +kernel
theorem dX11_dropTerm_21 : decode cX11_dropTerm 21 = .ok (.ldc 91, 2) := by decide +kernel
theorem dX11_dropTerm_23 : decode cX11_dropTerm 23 = .ok (.ireturn, 1) := by decide +kernel
theorem dX11_dropTerm_24 : decode cX11_dropTerm 24 = .ok (.aload_n 0, 1) := by decide +kernel
theorem dX11_dropTerm_25 : decode cX11_dropTerm 25 = .ok (.getfield 19, 3) := by decide +kernel
theorem dX11_dropTerm_28 : decode cX11_dropTerm 28 = .ok (.aload_n 0, 1) := by decide +kernel
theorem dX11_dropTerm_29 : decode cX11_dropTerm 29 = .ok (.getfield 10, 3) := by decide +kernel
theorem dX11_dropTerm_32 : decode cX11_dropTerm 32 = .ok (.invokevirtual 66, 3) := by decide +kernel
theorem dX11_dropTerm_35 : decode cX11_dropTerm 35 = .ok (.aload_n 0, 1) := by decide +kernel
theorem dX11_dropTerm_36 : decode cX11_dropTerm 36 = .ok (.getfield 10, 3) := by decide +kernel
theorem dX11_dropTerm_39 : decode cX11_dropTerm 39 = .ok (.getfield 70, 3) := by decide +kernel
theorem dX11_dropTerm_42 : decode cX11_dropTerm 42 = .ok (.invokevirtual 74, 3) := by decide +kernel
theorem dX11_dropTerm_45 : decode cX11_dropTerm 45 = .ok (.aload_n 0, 1) := by decide +kernel
theorem dX11_dropTerm_46 : decode cX11_dropTerm 46 = .ok (.getfield 10, 3) := by decide +kernel
theorem dX11_dropTerm_49 : decode cX11_dropTerm 49 = .ok (.getfield 55, 3) := by decide +kernel
theorem dX11_dropTerm_52 : decode cX11_dropTerm 52 = .ok (.iload_n 1, 1) := by decide +kernel
theorem dX11_dropTerm_53 : decode cX11_dropTerm 53 = .ok (.invokevirtual 92, 3) := by decide +kernel
theorem dX11_dropTerm_56 : decode cX11_dropTerm 56 = .ok (.ireturn, 1) := by decide +kernel
theorem dX11_termOf_0 : decode cX11_termOf 0 = .ok (.iload_n 1, 1) := by decide +kernel
theorem dX11_termOf_1 : decode cX11_termOf 1 = .ok (.ifCond .lt 15, 3) := by decide +kernel
theorem dX11_termOf_4 : decode cX11_termOf 4 = .ok (.iload_n 2, 1) := by decide +kernel
theorem dX11_termOf_5 : decode cX11_termOf 5 = .ok (.i2l, 1) := by decide +kernel
theorem dX11_termOf_6 : decode cX11_termOf 6 = .ok (.lconst 0, 1) := by decide +kernel
theorem dX11_termOf_7 : decode cX11_termOf 7 = .ok (.ldc2_w 96, 3) := by decide +kernel
theorem dX11_termOf_10 : decode cX11_termOf 10 = .ok (.invokestatic 48, 3) := by decide +kernel
theorem dX11_termOf_13 : decode cX11_termOf 13 = .ok (.ifCond .ne 6, 3) := by decide +kernel
theorem dX11_termOf_16 : decode cX11_termOf 16 = .ok (.ldc 52, 2) := by decide +kernel
theorem dX11_termOf_18 : decode cX11_termOf 18 = .ok (.ireturn, 1) := by decide +kernel
theorem dX11_termOf_19 : decode cX11_termOf 19 = .ok (.aload_n 0, 1) := by decide +kernel
theorem dX11_termOf_20 : decode cX11_termOf 20 = .ok (.getfield 10, 3) := by decide +kernel
theorem dX11_termOf_23 : decode cX11_termOf 23 = .ok (.getfield 55, 3) := by decide +kernel
theorem dX11_termOf_26 : decode cX11_termOf 26 = .ok (.iload_n 1, 1) := by decide +kernel
theorem dX11_termOf_27 : decode cX11_termOf 27 = .ok (.invokevirtual 87, 3) := by decide +kernel
theorem dX11_termOf_30 : decode cX11_termOf 30 = .ok (.ifCond .ne 6, 3) := by decide +kernel
theorem dX11_termOf_33 : decode cX11_termOf 33 = .ok (.ldc 98, 2) := by decide +kernel
theorem dX11_termOf_35 : decode cX11_termOf 35 = .ok (.ireturn, 1) := by decide +kernel
theorem dX11_termOf_36 : decode cX11_termOf 36 = .ok (.iload_n 2, 1) := by decide +kernel
theorem dX11_termOf_37 : decode cX11_termOf 37 = .ok (.lookupswitch 53 #[(0, 27), (1, 40)], 27) := by decide +kernel
theorem dX11_termOf_64 : decode cX11_termOf 64 = .ok (.aload_n 0, 1) := by decide +kernel
theorem dX11_termOf_65 : decode cX11_termOf 65 = .ok (.getfield 10, 3) := by decide +kernel
theorem dX11_termOf_68 : decode cX11_termOf 68 = .ok (.getfield 55, 3) := by decide +kernel
theorem dX11_termOf_71 : decode cX11_termOf 71 = .ok (.getfield 99, 3) := by decide +kernel
theorem dX11_termOf_74 : decode cX11_termOf 74 = .ok (.iload_n 1, 1) := by decide +kernel
theorem dX11_termOf_75 : decode cX11_termOf 75 = .ok (.iaload, 1) := by decide +kernel
theorem dX11_termOf_76 : decode cX11_termOf 76 = .ok (.ireturn, 1) := by decide +kernel
theorem dX11_termOf_77 : decode cX11_termOf 77 = .ok (.aload_n 0, 1) := by decide +kernel
theorem dX11_termOf_78 : decode cX11_termOf 78 = .ok (.getfield 10, 3) := by decide +kernel
theorem dX11_termOf_81 : decode cX11_termOf 81 = .ok (.getfield 55, 3) := by decide +kernel
theorem dX11_termOf_84 : decode cX11_termOf 84 = .ok (.getfield 103, 3) := by decide +kernel
theorem dX11_termOf_87 : decode cX11_termOf 87 = .ok (.iload_n 1, 1) := by decide +kernel
theorem dX11_termOf_88 : decode cX11_termOf 88 = .ok (.iaload, 1) := by decide +kernel
theorem dX11_termOf_89 : decode cX11_termOf 89 = .ok (.ireturn, 1) := by decide +kernel
theorem dX11_termOf_90 : decode cX11_termOf 90 = .ok (.aload_n 0, 1) := by decide +kernel
theorem dX11_termOf_91 : decode cX11_termOf 91 = .ok (.getfield 10, 3) := by decide +kernel
theorem dX11_termOf_94 : decode cX11_termOf 94 = .ok (.getfield 55, 3) := by decide +kernel
theorem dX11_termOf_97 : decode cX11_termOf 97 = .ok (.getfield 106, 3) := by decide +kernel
theorem dX11_termOf_100 : decode cX11_termOf 100 = .ok (.iload_n 1, 1) := by decide +kernel
theorem dX11_termOf_101 : decode cX11_termOf 101 = .ok (.iaload, 1) := by decide +kernel
theorem dX11_termOf_102 : decode cX11_termOf 102 = .ok (.ireturn, 1) := by decide +kernel
theorem dX11_value_0 : decode cX11_value 0 = .ok (.iload_n 1, 1) := by decide +kernel
theorem dX11_value_1 : decode cX11_value 1 = .ok (.i2l, 1) := by decide +kernel
theorem dX11_value_2 : decode cX11_value 2 = .ok (.iload_n 2, 1) := by decide +kernel
theorem dX11_value_3 : decode cX11_value 3 = .ok (.i2l, 1) := by decide +kernel
theorem dX11_value_4 : decode cX11_value 4 = .ok (.invokestatic 109, 3) := by decide +kernel
theorem dX11_value_7 : decode cX11_value 7 = .ok (.ifCond .eq 15, 3) := by decide +kernel
theorem dX11_value_10 : decode cX11_value 10 = .ok (.iload_n 3, 1) := by decide +kernel
theorem dX11_value_11 : decode cX11_value 11 = .ok (.i2l, 1) := by decide +kernel
theorem dX11_value_12 : decode cX11_value 12 = .ok (.lconst 0, 1) := by decide +kernel
theorem dX11_value_13 : decode cX11_value 13 = .ok (.ldc2_w 96, 3) := by decide +kernel
theorem dX11_value_16 : decode cX11_value 16 = .ok (.invokestatic 48, 3) := by decide +kernel
theorem dX11_value_19 : decode cX11_value 19 = .ok (.ifCond .ne 7, 3) := by decide +kernel
theorem dX11_value_22 : decode cX11_value 22 = .ok (.ldc2_w 113, 3) := by decide +kernel
theorem dX11_value_25 : decode cX11_value 25 = .ok (.lreturn, 1) := by decide +kernel
theorem dX11_value_26 : decode cX11_value 26 = .ok (.aload_n 0, 1) := by decide +kernel
theorem dX11_value_27 : decode cX11_value 27 = .ok (.getfield 26, 3) := by decide +kernel
theorem dX11_value_30 : decode cX11_value 30 = .ok (.getfield 115, 3) := by decide +kernel
theorem dX11_value_33 : decode cX11_value 33 = .ok (.astore 4, 2) := by decide +kernel
theorem dX11_value_35 : decode cX11_value 35 = .ok (.aload 4, 2) := by decide +kernel
theorem dX11_value_37 : decode cX11_value 37 = .ok (.aload_n 0, 1) := by decide +kernel
theorem dX11_value_38 : decode cX11_value 38 = .ok (.getfield 10, 3) := by decide +kernel
theorem dX11_value_41 : decode cX11_value 41 = .ok (.getfield 55, 3) := by decide +kernel
theorem dX11_value_44 : decode cX11_value 44 = .ok (.iload_n 1, 1) := by decide +kernel
theorem dX11_value_45 : decode cX11_value 45 = .ok (.i2l, 1) := by decide +kernel
theorem dX11_value_46 : decode cX11_value 46 = .ok (.iload_n 2, 1) := by decide +kernel
theorem dX11_value_47 : decode cX11_value 47 = .ok (.i2l, 1) := by decide +kernel
theorem dX11_value_48 : decode cX11_value 48 = .ok (.invokevirtual 119, 3) := by decide +kernel
theorem dX11_value_51 : decode cX11_value 51 = .ok (.iload_n 3, 1) := by decide +kernel
theorem dX11_value_52 : decode cX11_value 52 = .ok (.lookupswitch 48 #[(0, 28), (1, 38)], 28) := by decide +kernel
theorem dX11_value_80 : decode cX11_value 80 = .ok (.ldc2_w 125, 3) := by decide +kernel
theorem dX11_value_83 : decode cX11_value 83 = .ok (.aload 4, 2) := by decide +kernel
theorem dX11_value_85 : decode cX11_value 85 = .ok (.getfield 127, 3) := by decide +kernel
theorem dX11_value_88 : decode cX11_value 88 = .ok (.ladd, 1) := by decide +kernel
theorem dX11_value_89 : decode cX11_value 89 = .ok (.lreturn, 1) := by decide +kernel
theorem dX11_value_90 : decode cX11_value 90 = .ok (.ldc2_w 125, 3) := by decide +kernel
theorem dX11_value_93 : decode cX11_value 93 = .ok (.aload 4, 2) := by decide +kernel
theorem dX11_value_95 : decode cX11_value 95 = .ok (.getfield 131, 3) := by decide +kernel
theorem dX11_value_98 : decode cX11_value 98 = .ok (.ladd, 1) := by decide +kernel
theorem dX11_value_99 : decode cX11_value 99 = .ok (.lreturn, 1) := by decide +kernel
theorem dX11_value_100 : decode cX11_value 100 = .ok (.ldc2_w 125, 3) := by decide +kernel
theorem dX11_value_103 : decode cX11_value 103 = .ok (.aload 4, 2) := by decide +kernel
theorem dX11_value_105 : decode cX11_value 105 = .ok (.getfield 134, 3) := by decide +kernel
theorem dX11_value_108 : decode cX11_value 108 = .ok (.ladd, 1) := by decide +kernel
theorem dX11_value_109 : decode cX11_value 109 = .ok (.lreturn, 1) := by decide +kernel
theorem dX11_corrected_0 : decode cX11_corrected 0 = .ok (.iload_n 1, 1) := by decide +kernel
theorem dX11_corrected_1 : decode cX11_corrected 1 = .ok (.i2l, 1) := by decide +kernel
theorem dX11_corrected_2 : decode cX11_corrected 2 = .ok (.iload_n 2, 1) := by decide +kernel
theorem dX11_corrected_3 : decode cX11_corrected 3 = .ok (.i2l, 1) := by decide +kernel
theorem dX11_corrected_4 : decode cX11_corrected 4 = .ok (.invokestatic 109, 3) := by decide +kernel
theorem dX11_corrected_7 : decode cX11_corrected 7 = .ok (.ifCond .eq 15, 3) := by decide +kernel
theorem dX11_corrected_10 : decode cX11_corrected 10 = .ok (.iload_n 3, 1) := by decide +kernel
theorem dX11_corrected_11 : decode cX11_corrected 11 = .ok (.i2l, 1) := by decide +kernel
theorem dX11_corrected_12 : decode cX11_corrected 12 = .ok (.lconst 0, 1) := by decide +kernel
theorem dX11_corrected_13 : decode cX11_corrected 13 = .ok (.ldc2_w 96, 3) := by decide +kernel
theorem dX11_corrected_16 : decode cX11_corrected 16 = .ok (.invokestatic 48, 3) := by decide +kernel
theorem dX11_corrected_19 : decode cX11_corrected 19 = .ok (.ifCond .ne 6, 3) := by decide +kernel
theorem dX11_corrected_22 : decode cX11_corrected 22 = .ok (.ldc 52, 2) := by decide +kernel
theorem dX11_corrected_24 : decode cX11_corrected 24 = .ok (.ireturn, 1) := by decide +kernel
theorem dX11_corrected_25 : decode cX11_corrected 25 = .ok (.aload_n 0, 1) := by decide +kernel
theorem dX11_corrected_26 : decode cX11_corrected 26 = .ok (.getfield 26, 3) := by decide +kernel
theorem dX11_corrected_29 : decode cX11_corrected 29 = .ok (.getfield 137, 3) := by decide +kernel
theorem dX11_corrected_32 : decode cX11_corrected 32 = .ok (.astore 4, 2) := by decide +kernel
theorem dX11_corrected_34 : decode cX11_corrected 34 = .ok (.aload 4, 2) := by decide +kernel
theorem dX11_corrected_36 : decode cX11_corrected 36 = .ok (.aload_n 0, 1) := by decide +kernel
theorem dX11_corrected_37 : decode cX11_corrected 37 = .ok (.getfield 10, 3) := by decide +kernel
theorem dX11_corrected_40 : decode cX11_corrected 40 = .ok (.iload_n 1, 1) := by decide +kernel
theorem dX11_corrected_41 : decode cX11_corrected 41 = .ok (.i2l, 1) := by decide +kernel
theorem dX11_corrected_42 : decode cX11_corrected 42 = .ok (.iload_n 2, 1) := by decide +kernel
theorem dX11_corrected_43 : decode cX11_corrected 43 = .ok (.i2l, 1) := by decide +kernel
theorem dX11_corrected_44 : decode cX11_corrected 44 = .ok (.invokevirtual 141, 3) := by decide +kernel
theorem dX11_corrected_47 : decode cX11_corrected 47 = .ok (.ifCond .ne 6, 3) := by decide +kernel
theorem dX11_corrected_50 : decode cX11_corrected 50 = .ok (.ldc 98, 2) := by decide +kernel
theorem dX11_corrected_52 : decode cX11_corrected 52 = .ok (.ireturn, 1) := by decide +kernel
theorem dX11_corrected_53 : decode cX11_corrected 53 = .ok (.iload_n 3, 1) := by decide +kernel
theorem dX11_corrected_54 : decode cX11_corrected 54 = .ok (.lookupswitch 38 #[(0, 26), (1, 32)], 26) := by decide +kernel
theorem dX11_corrected_80 : decode cX11_corrected 80 = .ok (.aload 4, 2) := by decide +kernel
theorem dX11_corrected_82 : decode cX11_corrected 82 = .ok (.getfield 147, 3) := by decide +kernel
theorem dX11_corrected_85 : decode cX11_corrected 85 = .ok (.ireturn, 1) := by decide +kernel
theorem dX11_corrected_86 : decode cX11_corrected 86 = .ok (.aload 4, 2) := by decide +kernel
theorem dX11_corrected_88 : decode cX11_corrected 88 = .ok (.getfield 150, 3) := by decide +kernel
theorem dX11_corrected_91 : decode cX11_corrected 91 = .ok (.ireturn, 1) := by decide +kernel
theorem dX11_corrected_92 : decode cX11_corrected 92 = .ok (.aload 4, 2) := by decide +kernel
theorem dX11_corrected_94 : decode cX11_corrected 94 = .ok (.getfield 153, 3) := by decide +kernel
theorem dX11_corrected_97 : decode cX11_corrected 97 = .ok (.ireturn, 1) := by decide +kernel
theorem dX11_begin_0 : decode cX11_begin 0 = .ok (.iload_n 1, 1) := by decide +kernel
theorem dX11_begin_1 : decode cX11_begin 1 = .ok (.i2l, 1) := by decide +kernel
theorem dX11_begin_2 : decode cX11_begin 2 = .ok (.iload_n 2, 1) := by decide +kernel
theorem dX11_begin_3 : decode cX11_begin 3 = .ok (.i2l, 1) := by decide +kernel
theorem dX11_begin_4 : decode cX11_begin 4 = .ok (.invokestatic 109, 3) := by decide +kernel
theorem dX11_begin_7 : decode cX11_begin 7 = .ok (.ifCond .eq 10, 3) := by decide +kernel
theorem dX11_begin_10 : decode cX11_begin 10 = .ok (.iload_n 3, 1) := by decide +kernel
theorem dX11_begin_11 : decode cX11_begin 11 = .ok (.invokestatic 156, 3) := by decide +kernel
theorem dX11_begin_14 : decode cX11_begin 14 = .ok (.ifCond .ne 6, 3) := by decide +kernel
theorem dX11_begin_17 : decode cX11_begin 17 = .ok (.ldc 52, 2) := by decide +kernel
theorem dX11_begin_19 : decode cX11_begin 19 = .ok (.ireturn, 1) := by decide +kernel
theorem dX11_begin_20 : decode cX11_begin 20 = .ok (.aload_n 0, 1) := by decide +kernel
theorem dX11_begin_21 : decode cX11_begin 21 = .ok (.getfield 26, 3) := by decide +kernel
theorem dX11_begin_24 : decode cX11_begin 24 = .ok (.getfield 137, 3) := by decide +kernel
theorem dX11_begin_27 : decode cX11_begin 27 = .ok (.aload_n 0, 1) := by decide +kernel
theorem dX11_begin_28 : decode cX11_begin 28 = .ok (.getfield 10, 3) := by decide +kernel
theorem dX11_begin_31 : decode cX11_begin 31 = .ok (.iload_n 1, 1) := by decide +kernel
theorem dX11_begin_32 : decode cX11_begin 32 = .ok (.i2l, 1) := by decide +kernel
theorem dX11_begin_33 : decode cX11_begin 33 = .ok (.iload_n 2, 1) := by decide +kernel
theorem dX11_begin_34 : decode cX11_begin 34 = .ok (.i2l, 1) := by decide +kernel
theorem dX11_begin_35 : decode cX11_begin 35 = .ok (.invokevirtual 141, 3) := by decide +kernel
theorem dX11_begin_38 : decode cX11_begin 38 = .ok (.ifCond .ne 6, 3) := by decide +kernel
theorem dX11_begin_41 : decode cX11_begin 41 = .ok (.ldc 91, 2) := by decide +kernel
theorem dX11_begin_43 : decode cX11_begin 43 = .ok (.ireturn, 1) := by decide +kernel
theorem dX11_begin_44 : decode cX11_begin 44 = .ok (.aload_n 0, 1) := by decide +kernel
theorem dX11_begin_45 : decode cX11_begin 45 = .ok (.iload_n 3, 1) := by decide +kernel
theorem dX11_begin_46 : decode cX11_begin 46 = .ok (.iconst (-1), 1) := by decide +kernel
theorem dX11_begin_47 : decode cX11_begin 47 = .ok (.iconst (-1), 1) := by decide +kernel
theorem dX11_begin_48 : decode cX11_begin 48 = .ok (.invokevirtual 159, 3) := by decide +kernel
theorem dX11_begin_51 : decode cX11_begin 51 = .ok (.ireturn, 1) := by decide +kernel
theorem dX11_branch_0 : decode cX11_branch 0 = .ok (.aload_n 0, 1) := by decide +kernel
theorem dX11_branch_1 : decode cX11_branch 1 = .ok (.getfield 10, 3) := by decide +kernel
theorem dX11_branch_4 : decode cX11_branch 4 = .ok (.getfield 70, 3) := by decide +kernel
theorem dX11_branch_7 : decode cX11_branch 7 = .ok (.iload_n 1, 1) := by decide +kernel
theorem dX11_branch_8 : decode cX11_branch 8 = .ok (.invokevirtual 163, 3) := by decide +kernel
theorem dX11_branch_11 : decode cX11_branch 11 = .ok (.astore 4, 2) := by decide +kernel
theorem dX11_branch_13 : decode cX11_branch 13 = .ok (.aload 4, 2) := by decide +kernel
theorem dX11_branch_15 : decode cX11_branch 15 = .ok (.ifnull 19, 3) := by decide +kernel
theorem dX11_branch_18 : decode cX11_branch 18 = .ok (.aload 4, 2) := by decide +kernel
theorem dX11_branch_20 : decode cX11_branch 20 = .ok (.iload_n 2, 1) := by decide +kernel
theorem dX11_branch_21 : decode cX11_branch 21 = .ok (.invokevirtual 167, 3) := by decide +kernel
theorem dX11_branch_24 : decode cX11_branch 24 = .ok (.ifCond .eq 10, 3) := by decide +kernel
theorem dX11_branch_27 : decode cX11_branch 27 = .ok (.iload_n 3, 1) := by decide +kernel
theorem dX11_branch_28 : decode cX11_branch 28 = .ok (.invokestatic 156, 3) := by decide +kernel
theorem dX11_branch_31 : decode cX11_branch 31 = .ok (.ifCond .ne 6, 3) := by decide +kernel
theorem dX11_branch_34 : decode cX11_branch 34 = .ok (.ldc 52, 2) := by decide +kernel
theorem dX11_branch_36 : decode cX11_branch 36 = .ok (.ireturn, 1) := by decide +kernel
theorem dX11_branch_37 : decode cX11_branch 37 = .ok (.aload 4, 2) := by decide +kernel
theorem dX11_branch_39 : decode cX11_branch 39 = .ok (.getfield 170, 3) := by decide +kernel
theorem dX11_branch_42 : decode cX11_branch 42 = .ok (.iload_n 2, 1) := by decide +kernel
theorem dX11_branch_43 : decode cX11_branch 43 = .ok (.iaload, 1) := by decide +kernel
theorem dX11_branch_44 : decode cX11_branch 44 = .ok (.iconst 2, 1) := by decide +kernel
theorem dX11_branch_45 : decode cX11_branch 45 = .ok (.if_icmp .ne 21, 3) := by decide +kernel
theorem dX11_branch_48 : decode cX11_branch 48 = .ok (.aload_n 0, 1) := by decide +kernel
theorem dX11_branch_49 : decode cX11_branch 49 = .ok (.getfield 26, 3) := by decide +kernel
theorem dX11_branch_52 : decode cX11_branch 52 = .ok (.aload_n 0, 1) := by decide +kernel
theorem dX11_branch_53 : decode cX11_branch 53 = .ok (.getfield 10, 3) := by decide +kernel
theorem dX11_branch_56 : decode cX11_branch 56 = .ok (.aload 4, 2) := by decide +kernel
theorem dX11_branch_58 : decode cX11_branch 58 = .ok (.iload_n 2, 1) := by decide +kernel
theorem dX11_branch_59 : decode cX11_branch 59 = .ok (.iload_n 3, 1) := by decide +kernel
theorem dX11_branch_60 : decode cX11_branch 60 = .ok (.invokevirtual 173, 3) := by decide +kernel
theorem dX11_branch_63 : decode cX11_branch 63 = .ok (.ifCond .ne 6, 3) := by decide +kernel
theorem dX11_branch_66 : decode cX11_branch 66 = .ok (.ldc 91, 2) := by decide +kernel
theorem dX11_branch_68 : decode cX11_branch 68 = .ok (.ireturn, 1) := by decide +kernel
theorem dX11_branch_69 : decode cX11_branch 69 = .ok (.aload_n 0, 1) := by decide +kernel
theorem dX11_branch_70 : decode cX11_branch 70 = .ok (.aload_n 0, 1) := by decide +kernel
theorem dX11_branch_71 : decode cX11_branch 71 = .ok (.getfield 26, 3) := by decide +kernel
theorem dX11_branch_74 : decode cX11_branch 74 = .ok (.aload 4, 2) := by decide +kernel
theorem dX11_branch_76 : decode cX11_branch 76 = .ok (.iload_n 2, 1) := by decide +kernel
theorem dX11_branch_77 : decode cX11_branch 77 = .ok (.iload_n 3, 1) := by decide +kernel
theorem dX11_branch_78 : decode cX11_branch 78 = .ok (.invokevirtual 177, 3) := by decide +kernel
theorem dX11_branch_81 : decode cX11_branch 81 = .ok (.iload_n 1, 1) := by decide +kernel
theorem dX11_branch_82 : decode cX11_branch 82 = .ok (.iload_n 2, 1) := by decide +kernel
theorem dX11_branch_83 : decode cX11_branch 83 = .ok (.invokevirtual 159, 3) := by decide +kernel
theorem dX11_branch_86 : decode cX11_branch 86 = .ok (.ireturn, 1) := by decide +kernel
theorem dX11_startWalk_0 : decode cX11_startWalk 0 = .ok (.aload_n 0, 1) := by decide +kernel
theorem dX11_startWalk_1 : decode cX11_startWalk 1 = .ok (.getfield 10, 3) := by decide +kernel
theorem dX11_startWalk_4 : decode cX11_startWalk 4 = .ok (.getfield 70, 3) := by decide +kernel
theorem dX11_startWalk_7 : decode cX11_startWalk 7 = .ok (.invokevirtual 181, 3) := by decide +kernel
theorem dX11_startWalk_10 : decode cX11_startWalk 10 = .ok (.ifCond .eq 6, 3) := by decide +kernel
theorem dX11_startWalk_13 : decode cX11_startWalk 13 = .ok (.ldc 65, 2) := by decide +kernel
theorem dX11_startWalk_15 : decode cX11_startWalk 15 = .ok (.ireturn, 1) := by decide +kernel
theorem dX11_startWalk_16 : decode cX11_startWalk 16 = .ok (.aload_n 0, 1) := by decide +kernel
theorem dX11_startWalk_17 : decode cX11_startWalk 17 = .ok (.getfield 19, 3) := by decide +kernel
theorem dX11_startWalk_20 : decode cX11_startWalk 20 = .ok (.aload_n 0, 1) := by decide +kernel
theorem dX11_startWalk_21 : decode cX11_startWalk 21 = .ok (.getfield 10, 3) := by decide +kernel
theorem dX11_startWalk_24 : decode cX11_startWalk 24 = .ok (.invokevirtual 66, 3) := by decide +kernel
theorem dX11_startWalk_27 : decode cX11_startWalk 27 = .ok (.aload_n 0, 1) := by decide +kernel
theorem dX11_startWalk_28 : decode cX11_startWalk 28 = .ok (.getfield 10, 3) := by decide +kernel
theorem dX11_startWalk_31 : decode cX11_startWalk 31 = .ok (.getfield 70, 3) := by decide +kernel
theorem dX11_startWalk_34 : decode cX11_startWalk 34 = .ok (.getfield 182, 3) := by decide +kernel
theorem dX11_startWalk_37 : decode cX11_startWalk 37 = .ok (.istore 4, 2) := by decide +kernel
theorem dX11_startWalk_39 : decode cX11_startWalk 39 = .ok (.aload_n 0, 1) := by decide +kernel
theorem dX11_startWalk_40 : decode cX11_startWalk 40 = .ok (.getfield 10, 3) := by decide +kernel
theorem dX11_startWalk_43 : decode cX11_startWalk 43 = .ok (.getfield 70, 3) := by decide +kernel
theorem dX11_startWalk_46 : decode cX11_startWalk 46 = .ok (.invokevirtual 183, 3) := by decide +kernel
theorem dX11_startWalk_49 : decode cX11_startWalk 49 = .ok (.astore 5, 2) := by decide +kernel
theorem dX11_startWalk_51 : decode cX11_startWalk 51 = .ok (.aload 5, 2) := by decide +kernel
theorem dX11_startWalk_53 : decode cX11_startWalk 53 = .ok (.ifnull 35, 3) := by decide +kernel
theorem dX11_startWalk_56 : decode cX11_startWalk 56 = .ok (.aload 5, 2) := by decide +kernel
theorem dX11_startWalk_58 : decode cX11_startWalk 58 = .ok (.iload_n 1, 1) := by decide +kernel
theorem dX11_startWalk_59 : decode cX11_startWalk 59 = .ok (.aload_n 0, 1) := by decide +kernel
theorem dX11_startWalk_60 : decode cX11_startWalk 60 = .ok (.getfield 10, 3) := by decide +kernel
theorem dX11_startWalk_63 : decode cX11_startWalk 63 = .ok (.getfield 187, 3) := by decide +kernel
theorem dX11_startWalk_66 : decode cX11_startWalk 66 = .ok (.iconst 0, 1) := by decide +kernel
theorem dX11_startWalk_67 : decode cX11_startWalk 67 = .ok (.invokevirtual 193, 3) := by decide +kernel
theorem dX11_startWalk_70 : decode cX11_startWalk 70 = .ok (.iload_n 2, 1) := by decide +kernel
theorem dX11_startWalk_71 : decode cX11_startWalk 71 = .ok (.iload_n 3, 1) := by decide +kernel
theorem dX11_startWalk_72 : decode cX11_startWalk 72 = .ok (.invokevirtual 195, 3) := by decide +kernel
theorem dX11_startWalk_75 : decode cX11_startWalk 75 = .ok (.aload 5, 2) := by decide +kernel
theorem dX11_startWalk_77 : decode cX11_startWalk 77 = .ok (.aload_n 0, 1) := by decide +kernel
theorem dX11_startWalk_78 : decode cX11_startWalk 78 = .ok (.getfield 26, 3) := by decide +kernel
theorem dX11_startWalk_81 : decode cX11_startWalk 81 = .ok (.getfield 137, 3) := by decide +kernel
theorem dX11_startWalk_84 : decode cX11_startWalk 84 = .ok (.iconst 0, 1) := by decide +kernel
theorem dX11_startWalk_85 : decode cX11_startWalk 85 = .ok (.invokevirtual 199, 3) := by decide +kernel
theorem dX11_startWalk_88 : decode cX11_startWalk 88 = .ok (.iload 4, 2) := by decide +kernel
theorem dX11_startWalk_90 : decode cX11_startWalk 90 = .ok (.ireturn, 1) := by decide +kernel
theorem dX11_step_0 : decode cX11_step 0 = .ok (.aload_n 0, 1) := by decide +kernel
theorem dX11_step_1 : decode cX11_step 1 = .ok (.getfield 10, 3) := by decide +kernel
theorem dX11_step_4 : decode cX11_step 4 = .ok (.getfield 70, 3) := by decide +kernel
theorem dX11_step_7 : decode cX11_step 7 = .ok (.iload_n 1, 1) := by decide +kernel
theorem dX11_step_8 : decode cX11_step 8 = .ok (.invokevirtual 163, 3) := by decide +kernel
theorem dX11_step_11 : decode cX11_step 11 = .ok (.astore_n 3, 1) := by decide +kernel
theorem dX11_step_12 : decode cX11_step 12 = .ok (.aload_n 3, 1) := by decide +kernel
theorem dX11_step_13 : decode cX11_step 13 = .ok (.ifnull 15, 3) := by decide +kernel
theorem dX11_step_16 : decode cX11_step 16 = .ok (.iload_n 2, 1) := by decide +kernel
theorem dX11_step_17 : decode cX11_step 17 = .ok (.i2l, 1) := by decide +kernel
theorem dX11_step_18 : decode cX11_step 18 = .ok (.lconst 1, 1) := by decide +kernel
theorem dX11_step_19 : decode cX11_step 19 = .ok (.ldc2_w 203, 3) := by decide +kernel
theorem dX11_step_22 : decode cX11_step 22 = .ok (.invokestatic 48, 3) := by decide +kernel
theorem dX11_step_25 : decode cX11_step 25 = .ok (.ifCond .ne 6, 3) := by decide +kernel
theorem dX11_step_28 : decode cX11_step 28 = .ok (.ldc 52, 2) := by decide +kernel
theorem dX11_step_30 : decode cX11_step 30 = .ok (.ireturn, 1) := by decide +kernel
theorem dX11_step_31 : decode cX11_step 31 = .ok (.aload_n 3, 1) := by decide +kernel
theorem dX11_step_32 : decode cX11_step 32 = .ok (.invokevirtual 205, 3) := by decide +kernel
theorem dX11_step_35 : decode cX11_step 35 = .ok (.ifCond .eq 6, 3) := by decide +kernel
theorem dX11_step_38 : decode cX11_step 38 = .ok (.ldc 91, 2) := by decide +kernel
theorem dX11_step_40 : decode cX11_step 40 = .ok (.ireturn, 1) := by decide +kernel
theorem dX11_step_41 : decode cX11_step 41 = .ok (.aload_n 0, 1) := by decide +kernel
theorem dX11_step_42 : decode cX11_step 42 = .ok (.getfield 19, 3) := by decide +kernel
theorem dX11_step_45 : decode cX11_step 45 = .ok (.aload_n 0, 1) := by decide +kernel
theorem dX11_step_46 : decode cX11_step 46 = .ok (.getfield 10, 3) := by decide +kernel
theorem dX11_step_49 : decode cX11_step 49 = .ok (.invokevirtual 66, 3) := by decide +kernel
theorem dX11_step_52 : decode cX11_step 52 = .ok (.iconst 0, 1) := by decide +kernel
theorem dX11_step_53 : decode cX11_step 53 = .ok (.istore 4, 2) := by decide +kernel
theorem dX11_step_55 : decode cX11_step 55 = .ok (.iload 4, 2) := by decide +kernel
theorem dX11_step_57 : decode cX11_step 57 = .ok (.iload_n 2, 1) := by decide +kernel
theorem dX11_step_58 : decode cX11_step 58 = .ok (.if_icmp .ge 31, 3) := by decide +kernel
theorem dX11_step_61 : decode cX11_step 61 = .ok (.aload_n 3, 1) := by decide +kernel
theorem dX11_step_62 : decode cX11_step 62 = .ok (.invokevirtual 205, 3) := by decide +kernel
theorem dX11_step_65 : decode cX11_step 65 = .ok (.ifCond .ne 24, 3) := by decide +kernel
theorem dX11_step_68 : decode cX11_step 68 = .ok (.aload_n 0, 1) := by decide +kernel
theorem dX11_step_69 : decode cX11_step 69 = .ok (.getfield 26, 3) := by decide +kernel
theorem dX11_step_72 : decode cX11_step 72 = .ok (.aload_n 0, 1) := by decide +kernel
theorem dX11_step_73 : decode cX11_step 73 = .ok (.getfield 10, 3) := by decide +kernel
theorem dX11_step_76 : decode cX11_step 76 = .ok (.aload_n 3, 1) := by decide +kernel
theorem dX11_step_77 : decode cX11_step 77 = .ok (.invokevirtual 209, 3) := by decide +kernel
theorem dX11_step_80 : decode cX11_step 80 = .ok (.ifCond .eq 9, 3) := by decide +kernel
theorem dX11_step_83 : decode cX11_step 83 = .ok (.iinc 4 1, 3) := by decide +kernel
theorem dX11_step_86 : decode cX11_step 86 = .ok (.goto (-31), 3) := by decide +kernel
theorem dX11_step_89 : decode cX11_step 89 = .ok (.iload 4, 2) := by decide +kernel
theorem dX11_step_91 : decode cX11_step 91 = .ok (.ireturn, 1) := by decide +kernel
theorem dX11_drop_0 : decode cX11_drop 0 = .ok (.aload_n 0, 1) := by decide +kernel
theorem dX11_drop_1 : decode cX11_drop 1 = .ok (.getfield 10, 3) := by decide +kernel
theorem dX11_drop_4 : decode cX11_drop 4 = .ok (.getfield 70, 3) := by decide +kernel
theorem dX11_drop_7 : decode cX11_drop 7 = .ok (.iload_n 1, 1) := by decide +kernel
theorem dX11_drop_8 : decode cX11_drop 8 = .ok (.invokevirtual 163, 3) := by decide +kernel
theorem dX11_drop_11 : decode cX11_drop 11 = .ok (.ifnonnull 6, 3) := by decide +kernel
theorem dX11_drop_14 : decode cX11_drop 14 = .ok (.ldc 52, 2) := by decide +kernel
theorem dX11_drop_16 : decode cX11_drop 16 = .ok (.ireturn, 1) := by decide +kernel
theorem dX11_drop_17 : decode cX11_drop 17 = .ok (.aload_n 0, 1) := by decide +kernel
theorem dX11_drop_18 : decode cX11_drop 18 = .ok (.getfield 19, 3) := by decide +kernel
theorem dX11_drop_21 : decode cX11_drop 21 = .ok (.aload_n 0, 1) := by decide +kernel
theorem dX11_drop_22 : decode cX11_drop 22 = .ok (.getfield 10, 3) := by decide +kernel
theorem dX11_drop_25 : decode cX11_drop 25 = .ok (.invokevirtual 66, 3) := by decide +kernel
theorem dX11_drop_28 : decode cX11_drop 28 = .ok (.aload_n 0, 1) := by decide +kernel
theorem dX11_drop_29 : decode cX11_drop 29 = .ok (.getfield 10, 3) := by decide +kernel
theorem dX11_drop_32 : decode cX11_drop 32 = .ok (.getfield 70, 3) := by decide +kernel
theorem dX11_drop_35 : decode cX11_drop 35 = .ok (.iload_n 1, 1) := by decide +kernel
theorem dX11_drop_36 : decode cX11_drop 36 = .ok (.invokevirtual 213, 3) := by decide +kernel
theorem dX11_drop_39 : decode cX11_drop 39 = .ok (.aload_n 0, 1) := by decide +kernel
theorem dX11_drop_40 : decode cX11_drop 40 = .ok (.getfield 10, 3) := by decide +kernel
theorem dX11_drop_43 : decode cX11_drop 43 = .ok (.getfield 70, 3) := by decide +kernel
theorem dX11_drop_46 : decode cX11_drop 46 = .ok (.getfield 182, 3) := by decide +kernel
theorem dX11_drop_49 : decode cX11_drop 49 = .ok (.ireturn, 1) := by decide +kernel
theorem dX11_set_0 : decode cX11_set 0 = .ok (.iload_n 1, 1) := by decide +kernel
theorem dX11_set_1 : decode cX11_set 1 = .ok (.iload_n 2, 1) := by decide +kernel
theorem dX11_set_2 : decode cX11_set 2 = .ok (.invokestatic 217, 3) := by decide +kernel
theorem dX11_set_5 : decode cX11_set 5 = .ok (.ifCond .ne 6, 3) := by decide +kernel
theorem dX11_set_8 : decode cX11_set 8 = .ok (.ldc 52, 2) := by decide +kernel
theorem dX11_set_10 : decode cX11_set 10 = .ok (.ireturn, 1) := by decide +kernel
theorem dX11_set_11 : decode cX11_set 11 = .ok (.aload_n 0, 1) := by decide +kernel
theorem dX11_set_12 : decode cX11_set 12 = .ok (.getfield 19, 3) := by decide +kernel
theorem dX11_set_15 : decode cX11_set 15 = .ok (.aload_n 0, 1) := by decide +kernel
theorem dX11_set_16 : decode cX11_set 16 = .ok (.getfield 10, 3) := by decide +kernel
theorem dX11_set_19 : decode cX11_set 19 = .ok (.invokevirtual 66, 3) := by decide +kernel
theorem dX11_set_22 : decode cX11_set 22 = .ok (.aload_n 0, 1) := by decide +kernel
theorem dX11_set_23 : decode cX11_set 23 = .ok (.getfield 10, 3) := by decide +kernel
theorem dX11_set_26 : decode cX11_set 26 = .ok (.getfield 187, 3) := by decide +kernel
theorem dX11_set_29 : decode cX11_set 29 = .ok (.iload_n 1, 1) := by decide +kernel
theorem dX11_set_30 : decode cX11_set 30 = .ok (.iload_n 2, 1) := by decide +kernel
theorem dX11_set_31 : decode cX11_set 31 = .ok (.invokevirtual 221, 3) := by decide +kernel
theorem dX11_set_34 : decode cX11_set 34 = .ok (.ireturn, 1) := by decide +kernel
theorem dX11_walkOf_0 : decode cX11_walkOf 0 = .ok (.aload_n 0, 1) := by decide +kernel
theorem dX11_walkOf_1 : decode cX11_walkOf 1 = .ok (.getfield 10, 3) := by decide +kernel
theorem dX11_walkOf_4 : decode cX11_walkOf 4 = .ok (.getfield 70, 3) := by decide +kernel
theorem dX11_walkOf_7 : decode cX11_walkOf 7 = .ok (.iload_n 1, 1) := by decide +kernel
theorem dX11_walkOf_8 : decode cX11_walkOf 8 = .ok (.invokevirtual 163, 3) := by decide +kernel
theorem dX11_walkOf_11 : decode cX11_walkOf 11 = .ok (.astore_n 3, 1) := by decide +kernel
theorem dX11_walkOf_12 : decode cX11_walkOf 12 = .ok (.aload_n 3, 1) := by decide +kernel
theorem dX11_walkOf_13 : decode cX11_walkOf 13 = .ok (.ifnull 15, 3) := by decide +kernel
theorem dX11_walkOf_16 : decode cX11_walkOf 16 = .ok (.iload_n 2, 1) := by decide +kernel
theorem dX11_walkOf_17 : decode cX11_walkOf 17 = .ok (.i2l, 1) := by decide +kernel
theorem dX11_walkOf_18 : decode cX11_walkOf 18 = .ok (.lconst 0, 1) := by decide +kernel
theorem dX11_walkOf_19 : decode cX11_walkOf 19 = .ok (.ldc2_w 225, 3) := by decide +kernel
theorem dX11_walkOf_22 : decode cX11_walkOf 22 = .ok (.invokestatic 48, 3) := by decide +kernel
theorem dX11_walkOf_25 : decode cX11_walkOf 25 = .ok (.ifCond .ne 6, 3) := by decide +kernel
theorem dX11_walkOf_28 : decode cX11_walkOf 28 = .ok (.ldc 52, 2) := by decide +kernel
theorem dX11_walkOf_30 : decode cX11_walkOf 30 = .ok (.ireturn, 1) := by decide +kernel
theorem dX11_walkOf_31 : decode cX11_walkOf 31 = .ok (.iload_n 2, 1) := by decide +kernel
theorem dX11_walkOf_32 : decode cX11_walkOf 32 = .ok (.tableswitch 116 0 7 #[48, 53, 58, 63, 68, 74, 80, 98], 48) := by decide +kernel
theorem dX11_walkOf_80 : decode cX11_walkOf 80 = .ok (.aload_n 3, 1) := by decide +kernel
theorem dX11_walkOf_81 : decode cX11_walkOf 81 = .ok (.getfield 227, 3) := by decide +kernel
theorem dX11_walkOf_84 : decode cX11_walkOf 84 = .ok (.ireturn, 1) := by decide +kernel
theorem dX11_walkOf_85 : decode cX11_walkOf 85 = .ok (.aload_n 3, 1) := by decide +kernel
theorem dX11_walkOf_86 : decode cX11_walkOf 86 = .ok (.getfield 228, 3) := by decide +kernel
theorem dX11_walkOf_89 : decode cX11_walkOf 89 = .ok (.ireturn, 1) := by decide +kernel
theorem dX11_walkOf_90 : decode cX11_walkOf 90 = .ok (.aload_n 3, 1) := by decide +kernel
theorem dX11_walkOf_91 : decode cX11_walkOf 91 = .ok (.getfield 231, 3) := by decide +kernel
theorem dX11_walkOf_94 : decode cX11_walkOf 94 = .ok (.ireturn, 1) := by decide +kernel
theorem dX11_walkOf_95 : decode cX11_walkOf 95 = .ok (.aload_n 3, 1) := by decide +kernel
theorem dX11_walkOf_96 : decode cX11_walkOf 96 = .ok (.invokevirtual 205, 3) := by decide +kernel
theorem dX11_walkOf_99 : decode cX11_walkOf 99 = .ok (.ireturn, 1) := by decide +kernel
theorem dX11_walkOf_100 : decode cX11_walkOf 100 = .ok (.aload_n 3, 1) := by decide +kernel
theorem dX11_walkOf_101 : decode cX11_walkOf 101 = .ok (.iconst 1, 1) := by decide +kernel
theorem dX11_walkOf_102 : decode cX11_walkOf 102 = .ok (.invokevirtual 234, 3) := by decide +kernel
theorem dX11_walkOf_105 : decode cX11_walkOf 105 = .ok (.ireturn, 1) := by decide +kernel
theorem dX11_walkOf_106 : decode cX11_walkOf 106 = .ok (.aload_n 3, 1) := by decide +kernel
theorem dX11_walkOf_107 : decode cX11_walkOf 107 = .ok (.iconst 2, 1) := by decide +kernel
theorem dX11_walkOf_108 : decode cX11_walkOf 108 = .ok (.invokevirtual 234, 3) := by decide +kernel
theorem dX11_walkOf_111 : decode cX11_walkOf 111 = .ok (.ireturn, 1) := by decide +kernel
theorem dX11_walkOf_112 : decode cX11_walkOf 112 = .ok (.aload_n 3, 1) := by decide +kernel
theorem dX11_walkOf_113 : decode cX11_walkOf 113 = .ok (.getfield 237, 3) := by decide +kernel
theorem dX11_walkOf_116 : decode cX11_walkOf 116 = .ok (.iconst (-1), 1) := by decide +kernel
theorem dX11_walkOf_117 : decode cX11_walkOf 117 = .ok (.if_icmp .ne 8, 3) := by decide +kernel
theorem dX11_walkOf_120 : decode cX11_walkOf 120 = .ok (.ldc 98, 2) := by decide +kernel
theorem dX11_walkOf_122 : decode cX11_walkOf 122 = .ok (.goto 7, 3) := by decide +kernel
theorem dX11_walkOf_125 : decode cX11_walkOf 125 = .ok (.aload_n 3, 1) := by decide +kernel
theorem dX11_walkOf_126 : decode cX11_walkOf 126 = .ok (.getfield 237, 3) := by decide +kernel
theorem dX11_walkOf_129 : decode cX11_walkOf 129 = .ok (.ireturn, 1) := by decide +kernel
theorem dX11_walkOf_130 : decode cX11_walkOf 130 = .ok (.aload_n 3, 1) := by decide +kernel
theorem dX11_walkOf_131 : decode cX11_walkOf 131 = .ok (.getfield 237, 3) := by decide +kernel
theorem dX11_walkOf_134 : decode cX11_walkOf 134 = .ok (.iconst (-1), 1) := by decide +kernel
theorem dX11_walkOf_135 : decode cX11_walkOf 135 = .ok (.if_icmp .ne 8, 3) := by decide +kernel
theorem dX11_walkOf_138 : decode cX11_walkOf 138 = .ok (.ldc 98, 2) := by decide +kernel
theorem dX11_walkOf_140 : decode cX11_walkOf 140 = .ok (.goto 7, 3) := by decide +kernel
theorem dX11_walkOf_143 : decode cX11_walkOf 143 = .ok (.aload_n 3, 1) := by decide +kernel
theorem dX11_walkOf_144 : decode cX11_walkOf 144 = .ok (.getfield 240, 3) := by decide +kernel
theorem dX11_walkOf_147 : decode cX11_walkOf 147 = .ok (.ireturn, 1) := by decide +kernel
theorem dX11_walkOf_148 : decode cX11_walkOf 148 = .ok (.aload_n 0, 1) := by decide +kernel
theorem dX11_walkOf_149 : decode cX11_walkOf 149 = .ok (.getfield 10, 3) := by decide +kernel
theorem dX11_walkOf_152 : decode cX11_walkOf 152 = .ok (.getfield 70, 3) := by decide +kernel
theorem dX11_walkOf_155 : decode cX11_walkOf 155 = .ok (.iload_n 1, 1) := by decide +kernel
theorem dX11_walkOf_156 : decode cX11_walkOf 156 = .ok (.invokevirtual 243, 3) := by decide +kernel
theorem dX11_walkOf_159 : decode cX11_walkOf 159 = .ok (.iconst 1, 1) := by decide +kernel
theorem dX11_walkOf_160 : decode cX11_walkOf 160 = .ok (.isub, 1) := by decide +kernel
theorem dX11_walkOf_161 : decode cX11_walkOf 161 = .ok (.ireturn, 1) := by decide +kernel
theorem dX11_placeOf_0 : decode cX11_placeOf 0 = .ok (.aload_n 0, 1) := by decide +kernel
theorem dX11_placeOf_1 : decode cX11_placeOf 1 = .ok (.getfield 10, 3) := by decide +kernel
theorem dX11_placeOf_4 : decode cX11_placeOf 4 = .ok (.getfield 70, 3) := by decide +kernel
theorem dX11_placeOf_7 : decode cX11_placeOf 7 = .ok (.iload_n 1, 1) := by decide +kernel
theorem dX11_placeOf_8 : decode cX11_placeOf 8 = .ok (.invokevirtual 163, 3) := by decide +kernel
theorem dX11_placeOf_11 : decode cX11_placeOf 11 = .ok (.astore 4, 2) := by decide +kernel
theorem dX11_placeOf_13 : decode cX11_placeOf 13 = .ok (.aload 4, 2) := by decide +kernel
theorem dX11_placeOf_15 : decode cX11_placeOf 15 = .ok (.ifnull 19, 3) := by decide +kernel
theorem dX11_placeOf_18 : decode cX11_placeOf 18 = .ok (.iload_n 2, 1) := by decide +kernel
theorem dX11_placeOf_19 : decode cX11_placeOf 19 = .ok (.ifCond .lt 15, 3) := by decide +kernel
theorem dX11_placeOf_22 : decode cX11_placeOf 22 = .ok (.iload_n 3, 1) := by decide +kernel
theorem dX11_placeOf_23 : decode cX11_placeOf 23 = .ok (.i2l, 1) := by decide +kernel
theorem dX11_placeOf_24 : decode cX11_placeOf 24 = .ok (.lconst 0, 1) := by decide +kernel
theorem dX11_placeOf_25 : decode cX11_placeOf 25 = .ok (.ldc2_w 53, 3) := by decide +kernel
theorem dX11_placeOf_28 : decode cX11_placeOf 28 = .ok (.invokestatic 48, 3) := by decide +kernel
theorem dX11_placeOf_31 : decode cX11_placeOf 31 = .ok (.ifCond .ne 6, 3) := by decide +kernel
theorem dX11_placeOf_34 : decode cX11_placeOf 34 = .ok (.ldc 52, 2) := by decide +kernel
theorem dX11_placeOf_36 : decode cX11_placeOf 36 = .ok (.ireturn, 1) := by decide +kernel
theorem dX11_placeOf_37 : decode cX11_placeOf 37 = .ok (.aload 4, 2) := by decide +kernel
theorem dX11_placeOf_39 : decode cX11_placeOf 39 = .ok (.iload_n 2, 1) := by decide +kernel
theorem dX11_placeOf_40 : decode cX11_placeOf 40 = .ok (.invokevirtual 167, 3) := by decide +kernel
theorem dX11_placeOf_43 : decode cX11_placeOf 43 = .ok (.ifCond .ne 6, 3) := by decide +kernel
theorem dX11_placeOf_46 : decode cX11_placeOf 46 = .ok (.ldc 98, 2) := by decide +kernel
theorem dX11_placeOf_48 : decode cX11_placeOf 48 = .ok (.ireturn, 1) := by decide +kernel
theorem dX11_placeOf_49 : decode cX11_placeOf 49 = .ok (.iload_n 3, 1) := by decide +kernel
theorem dX11_placeOf_50 : decode cX11_placeOf 50 = .ok (.tableswitch 50 0 2 #[26, 34, 42], 26) := by decide +kernel
theorem dX11_placeOf_76 : decode cX11_placeOf 76 = .ok (.aload 4, 2) := by decide +kernel
theorem dX11_placeOf_78 : decode cX11_placeOf 78 = .ok (.getfield 246, 3) := by decide +kernel
theorem dX11_placeOf_81 : decode cX11_placeOf 81 = .ok (.iload_n 2, 1) := by decide +kernel
theorem dX11_placeOf_82 : decode cX11_placeOf 82 = .ok (.iaload, 1) := by decide +kernel
theorem dX11_placeOf_83 : decode cX11_placeOf 83 = .ok (.ireturn, 1) := by decide +kernel
theorem dX11_placeOf_84 : decode cX11_placeOf 84 = .ok (.aload 4, 2) := by decide +kernel
theorem dX11_placeOf_86 : decode cX11_placeOf 86 = .ok (.getfield 249, 3) := by decide +kernel
theorem dX11_placeOf_89 : decode cX11_placeOf 89 = .ok (.iload_n 2, 1) := by decide +kernel
theorem dX11_placeOf_90 : decode cX11_placeOf 90 = .ok (.iaload, 1) := by decide +kernel
theorem dX11_placeOf_91 : decode cX11_placeOf 91 = .ok (.ireturn, 1) := by decide +kernel
theorem dX11_placeOf_92 : decode cX11_placeOf 92 = .ok (.aload 4, 2) := by decide +kernel
theorem dX11_placeOf_94 : decode cX11_placeOf 94 = .ok (.getfield 252, 3) := by decide +kernel
theorem dX11_placeOf_97 : decode cX11_placeOf 97 = .ok (.iload_n 2, 1) := by decide +kernel
theorem dX11_placeOf_98 : decode cX11_placeOf 98 = .ok (.iaload, 1) := by decide +kernel
theorem dX11_placeOf_99 : decode cX11_placeOf 99 = .ok (.ireturn, 1) := by decide +kernel
theorem dX11_placeOf_100 : decode cX11_placeOf 100 = .ok (.aload 4, 2) := by decide +kernel
theorem dX11_placeOf_102 : decode cX11_placeOf 102 = .ok (.getfield 170, 3) := by decide +kernel
theorem dX11_placeOf_105 : decode cX11_placeOf 105 = .ok (.iload_n 2, 1) := by decide +kernel
theorem dX11_placeOf_106 : decode cX11_placeOf 106 = .ok (.iaload, 1) := by decide +kernel
theorem dX11_placeOf_107 : decode cX11_placeOf 107 = .ok (.ireturn, 1) := by decide +kernel
theorem dX11_count_0 : decode cX11_count 0 = .ok (.iload_n 1, 1) := by decide +kernel
theorem dX11_count_1 : decode cX11_count 1 = .ok (.tableswitch 155 0 12 #[67, 78, 89, 100, 112, 124, 132, 155, 155, 155, 140, 140, 140], 67) := by decide +kernel
theorem dX11_count_68 : decode cX11_count 68 = .ok (.aload_n 0, 1) := by decide +kernel
theorem dX11_count_69 : decode cX11_count 69 = .ok (.getfield 10, 3) := by decide +kernel
theorem dX11_count_72 : decode cX11_count 72 = .ok (.getfield 55, 3) := by decide +kernel
theorem dX11_count_75 : decode cX11_count 75 = .ok (.getfield 83, 3) := by decide +kernel
theorem dX11_count_78 : decode cX11_count 78 = .ok (.ireturn, 1) := by decide +kernel
theorem dX11_count_79 : decode cX11_count 79 = .ok (.aload_n 0, 1) := by decide +kernel
theorem dX11_count_80 : decode cX11_count 80 = .ok (.getfield 10, 3) := by decide +kernel
theorem dX11_count_83 : decode cX11_count 83 = .ok (.getfield 70, 3) := by decide +kernel
theorem dX11_count_86 : decode cX11_count 86 = .ok (.getfield 182, 3) := by decide +kernel
theorem dX11_count_89 : decode cX11_count 89 = .ok (.ireturn, 1) := by decide +kernel
theorem dX11_count_90 : decode cX11_count 90 = .ok (.aload_n 0, 1) := by decide +kernel
theorem dX11_count_91 : decode cX11_count 91 = .ok (.getfield 10, 3) := by decide +kernel
theorem dX11_count_94 : decode cX11_count 94 = .ok (.getfield 70, 3) := by decide +kernel
theorem dX11_count_97 : decode cX11_count 97 = .ok (.invokevirtual 254, 3) := by decide +kernel
theorem dX11_count_100 : decode cX11_count 100 = .ok (.ireturn, 1) := by decide +kernel
theorem dX11_count_101 : decode cX11_count 101 = .ok (.aload_n 0, 1) := by decide +kernel
theorem dX11_count_102 : decode cX11_count 102 = .ok (.getfield 10, 3) := by decide +kernel
theorem dX11_count_105 : decode cX11_count 105 = .ok (.getfield 70, 3) := by decide +kernel
theorem dX11_count_108 : decode cX11_count 108 = .ok (.iconst 1, 1) := by decide +kernel
theorem dX11_count_109 : decode cX11_count 109 = .ok (.invokevirtual 257, 3) := by decide +kernel
theorem dX11_count_112 : decode cX11_count 112 = .ok (.ireturn, 1) := by decide +kernel
theorem dX11_count_113 : decode cX11_count 113 = .ok (.aload_n 0, 1) := by decide +kernel
theorem dX11_count_114 : decode cX11_count 114 = .ok (.getfield 10, 3) := by decide +kernel
theorem dX11_count_117 : decode cX11_count 117 = .ok (.getfield 70, 3) := by decide +kernel
theorem dX11_count_120 : decode cX11_count 120 = .ok (.iconst 2, 1) := by decide +kernel
theorem dX11_count_121 : decode cX11_count 121 = .ok (.invokevirtual 257, 3) := by decide +kernel
theorem dX11_count_124 : decode cX11_count 124 = .ok (.ireturn, 1) := by decide +kernel
theorem dX11_count_125 : decode cX11_count 125 = .ok (.aload_n 0, 1) := by decide +kernel
theorem dX11_count_126 : decode cX11_count 126 = .ok (.getfield 19, 3) := by decide +kernel
theorem dX11_count_129 : decode cX11_count 129 = .ok (.getfield 258, 3) := by decide +kernel
theorem dX11_count_132 : decode cX11_count 132 = .ok (.ireturn, 1) := by decide +kernel
theorem dX11_count_133 : decode cX11_count 133 = .ok (.aload_n 0, 1) := by decide +kernel
theorem dX11_count_134 : decode cX11_count 134 = .ok (.getfield 33, 3) := by decide +kernel
theorem dX11_count_137 : decode cX11_count 137 = .ok (.getfield 259, 3) := by decide +kernel
theorem dX11_count_140 : decode cX11_count 140 = .ok (.ireturn, 1) := by decide +kernel
theorem dX11_count_141 : decode cX11_count 141 = .ok (.aload_n 0, 1) := by decide +kernel
theorem dX11_count_142 : decode cX11_count 142 = .ok (.getfield 10, 3) := by decide +kernel
theorem dX11_count_145 : decode cX11_count 145 = .ok (.getfield 187, 3) := by decide +kernel
theorem dX11_count_148 : decode cX11_count 148 = .ok (.iload_n 1, 1) := by decide +kernel
theorem dX11_count_149 : decode cX11_count 149 = .ok (.bipush 10, 2) := by decide +kernel
theorem dX11_count_151 : decode cX11_count 151 = .ok (.isub, 1) := by decide +kernel
theorem dX11_count_152 : decode cX11_count 152 = .ok (.invokevirtual 193, 3) := by decide +kernel
theorem dX11_count_155 : decode cX11_count 155 = .ok (.ireturn, 1) := by decide +kernel
theorem dX11_count_156 : decode cX11_count 156 = .ok (.ldc 52, 2) := by decide +kernel
theorem dX11_count_158 : decode cX11_count 158 = .ok (.ireturn, 1) := by decide +kernel
theorem dX11_meets_0 : decode cX11_meets 0 = .ok (.iload_n 1, 1) := by decide +kernel
theorem dX11_meets_1 : decode cX11_meets 1 = .ok (.i2l, 1) := by decide +kernel
theorem dX11_meets_2 : decode cX11_meets 2 = .ok (.ldc2_w 262, 3) := by decide +kernel
theorem dX11_meets_5 : decode cX11_meets 5 = .ok (.ldc2_w 264, 3) := by decide +kernel
theorem dX11_meets_8 : decode cX11_meets 8 = .ok (.invokestatic 48, 3) := by decide +kernel
theorem dX11_meets_11 : decode cX11_meets 11 = .ok (.ifCond .ne 6, 3) := by decide +kernel
end
section
theorem dX11_meets_14 : decode cX11_meets 14 = .ok (.ldc 52, 2) := by decide +kernel
theorem dX11_meets_16 : decode cX11_meets 16 = .ok (.ireturn, 1) := by decide +kernel
theorem dX11_meets_17 : decode cX11_meets 17 = .ok (.aload_n 0, 1) := by decide +kernel
theorem dX11_meets_18 : decode cX11_meets 18 = .ok (.getfield 10, 3) := by decide +kernel
theorem dX11_meets_21 : decode cX11_meets 21 = .ok (.getfield 55, 3) := by decide +kernel
theorem dX11_meets_24 : decode cX11_meets 24 = .ok (.iload_n 1, 1) := by decide +kernel
theorem dX11_meets_25 : decode cX11_meets 25 = .ok (.i2l, 1) := by decide +kernel
theorem dX11_meets_26 : decode cX11_meets 26 = .ok (.iconst 0, 1) := by decide +kernel
theorem dX11_meets_27 : decode cX11_meets 27 = .ok (.invokevirtual 266, 3) := by decide +kernel
theorem dX11_meets_30 : decode cX11_meets 30 = .ok (.lstore_n 2, 1) := by decide +kernel
theorem dX11_meets_31 : decode cX11_meets 31 = .ok (.aload_n 0, 1) := by decide +kernel
theorem dX11_meets_32 : decode cX11_meets 32 = .ok (.getfield 10, 3) := by decide +kernel
theorem dX11_meets_35 : decode cX11_meets 35 = .ok (.getfield 55, 3) := by decide +kernel
theorem dX11_meets_38 : decode cX11_meets 38 = .ok (.iload_n 1, 1) := by decide +kernel
theorem dX11_meets_39 : decode cX11_meets 39 = .ok (.i2l, 1) := by decide +kernel
theorem dX11_meets_40 : decode cX11_meets 40 = .ok (.iconst 1, 1) := by decide +kernel
theorem dX11_meets_41 : decode cX11_meets 41 = .ok (.invokevirtual 266, 3) := by decide +kernel
theorem dX11_meets_44 : decode cX11_meets 44 = .ok (.lstore 4, 2) := by decide +kernel
theorem dX11_meets_46 : decode cX11_meets 46 = .ok (.aload_n 0, 1) := by decide +kernel
theorem dX11_meets_47 : decode cX11_meets 47 = .ok (.getfield 10, 3) := by decide +kernel
theorem dX11_meets_50 : decode cX11_meets 50 = .ok (.getfield 55, 3) := by decide +kernel
theorem dX11_meets_53 : decode cX11_meets 53 = .ok (.iload_n 1, 1) := by decide +kernel
theorem dX11_meets_54 : decode cX11_meets 54 = .ok (.i2l, 1) := by decide +kernel
theorem dX11_meets_55 : decode cX11_meets 55 = .ok (.iconst 2, 1) := by decide +kernel
theorem dX11_meets_56 : decode cX11_meets 56 = .ok (.invokevirtual 266, 3) := by decide +kernel
theorem dX11_meets_59 : decode cX11_meets 59 = .ok (.lstore 6, 2) := by decide +kernel
theorem dX11_meets_61 : decode cX11_meets 61 = .ok (.aload_n 0, 1) := by decide +kernel
theorem dX11_meets_62 : decode cX11_meets 62 = .ok (.getfield 10, 3) := by decide +kernel
theorem dX11_meets_65 : decode cX11_meets 65 = .ok (.getfield 55, 3) := by decide +kernel
theorem dX11_meets_68 : decode cX11_meets 68 = .ok (.iload_n 1, 1) := by decide +kernel
theorem dX11_meets_69 : decode cX11_meets 69 = .ok (.i2l, 1) := by decide +kernel
theorem dX11_meets_70 : decode cX11_meets 70 = .ok (.iconst 3, 1) := by decide +kernel
theorem dX11_meets_71 : decode cX11_meets 71 = .ok (.invokevirtual 266, 3) := by decide +kernel
theorem dX11_meets_74 : decode cX11_meets 74 = .ok (.lstore 8, 2) := by decide +kernel
theorem dX11_meets_76 : decode cX11_meets 76 = .ok (.iconst 0, 1) := by decide +kernel
theorem dX11_meets_77 : decode cX11_meets 77 = .ok (.istore 10, 2) := by decide +kernel
theorem dX11_meets_79 : decode cX11_meets 79 = .ok (.iconst 0, 1) := by decide +kernel
theorem dX11_meets_80 : decode cX11_meets 80 = .ok (.istore 11, 2) := by decide +kernel
theorem dX11_meets_82 : decode cX11_meets 82 = .ok (.ldc2_w 262, 3) := by decide +kernel
theorem dX11_meets_85 : decode cX11_meets 85 = .ok (.lstore 12, 2) := by decide +kernel
theorem dX11_meets_87 : decode cX11_meets 87 = .ok (.lload 12, 2) := by decide +kernel
theorem dX11_meets_89 : decode cX11_meets 89 = .ok (.ldc2_w 264, 3) := by decide +kernel
theorem dX11_meets_92 : decode cX11_meets 92 = .ok (.lcmp, 1) := by decide +kernel
theorem dX11_meets_93 : decode cX11_meets 93 = .ok (.ifCond .gt 78, 3) := by decide +kernel
theorem dX11_meets_96 : decode cX11_meets 96 = .ok (.lload_n 2, 1) := by decide +kernel
theorem dX11_meets_97 : decode cX11_meets 97 = .ok (.lload 12, 2) := by decide +kernel
theorem dX11_meets_99 : decode cX11_meets 99 = .ok (.lload 4, 2) := by decide +kernel
theorem dX11_meets_101 : decode cX11_meets 101 = .ok (.lload 12, 2) := by decide +kernel
theorem dX11_meets_103 : decode cX11_meets 103 = .ok (.lload 6, 2) := by decide +kernel
theorem dX11_meets_105 : decode cX11_meets 105 = .ok (.lload 12, 2) := by decide +kernel
theorem dX11_meets_107 : decode cX11_meets 107 = .ok (.lload 8, 2) := by decide +kernel
theorem dX11_meets_109 : decode cX11_meets 109 = .ok (.lmul, 1) := by decide +kernel
theorem dX11_meets_110 : decode cX11_meets 110 = .ok (.ladd, 1) := by decide +kernel
theorem dX11_meets_111 : decode cX11_meets 111 = .ok (.lmul, 1) := by decide +kernel
theorem dX11_meets_112 : decode cX11_meets 112 = .ok (.ladd, 1) := by decide +kernel
theorem dX11_meets_113 : decode cX11_meets 113 = .ok (.lmul, 1) := by decide +kernel
theorem dX11_meets_114 : decode cX11_meets 114 = .ok (.ladd, 1) := by decide +kernel
theorem dX11_meets_115 : decode cX11_meets 115 = .ok (.lstore 14, 2) := by decide +kernel
theorem dX11_meets_117 : decode cX11_meets 117 = .ok (.lload 14, 2) := by decide +kernel
theorem dX11_meets_119 : decode cX11_meets 119 = .ok (.lconst 0, 1) := by decide +kernel
theorem dX11_meets_120 : decode cX11_meets 120 = .ok (.lcmp, 1) := by decide +kernel
theorem dX11_meets_121 : decode cX11_meets 121 = .ok (.ifCond .le 7, 3) := by decide +kernel
theorem dX11_meets_124 : decode cX11_meets 124 = .ok (.iconst 1, 1) := by decide +kernel
theorem dX11_meets_125 : decode cX11_meets 125 = .ok (.goto 15, 3) := by decide +kernel
theorem dX11_meets_128 : decode cX11_meets 128 = .ok (.lload 14, 2) := by decide +kernel
theorem dX11_meets_130 : decode cX11_meets 130 = .ok (.lconst 0, 1) := by decide +kernel
theorem dX11_meets_131 : decode cX11_meets 131 = .ok (.lcmp, 1) := by decide +kernel
theorem dX11_meets_132 : decode cX11_meets 132 = .ok (.ifCond .ge 7, 3) := by decide +kernel
theorem dX11_meets_135 : decode cX11_meets 135 = .ok (.iconst (-1), 1) := by decide +kernel
theorem dX11_meets_136 : decode cX11_meets 136 = .ok (.goto 4, 3) := by decide +kernel
theorem dX11_meets_139 : decode cX11_meets 139 = .ok (.iconst 0, 1) := by decide +kernel
theorem dX11_meets_140 : decode cX11_meets 140 = .ok (.istore 16, 2) := by decide +kernel
theorem dX11_meets_142 : decode cX11_meets 142 = .ok (.iload 16, 2) := by decide +kernel
theorem dX11_meets_144 : decode cX11_meets 144 = .ok (.iload 11, 2) := by decide +kernel
theorem dX11_meets_146 : decode cX11_meets 146 = .ok (.imul, 1) := by decide +kernel
theorem dX11_meets_147 : decode cX11_meets 147 = .ok (.ifCond .ge 6, 3) := by decide +kernel
theorem dX11_meets_150 : decode cX11_meets 150 = .ok (.iinc 10 1, 3) := by decide +kernel
theorem dX11_meets_153 : decode cX11_meets 153 = .ok (.iload 16, 2) := by decide +kernel
theorem dX11_meets_155 : decode cX11_meets 155 = .ok (.ifCond .eq 7, 3) := by decide +kernel
theorem dX11_meets_158 : decode cX11_meets 158 = .ok (.iload 16, 2) := by decide +kernel
theorem dX11_meets_160 : decode cX11_meets 160 = .ok (.istore 11, 2) := by decide +kernel
theorem dX11_meets_162 : decode cX11_meets 162 = .ok (.lload 12, 2) := by decide +kernel
theorem dX11_meets_164 : decode cX11_meets 164 = .ok (.lconst 1, 1) := by decide +kernel
theorem dX11_meets_165 : decode cX11_meets 165 = .ok (.ladd, 1) := by decide +kernel
theorem dX11_meets_166 : decode cX11_meets 166 = .ok (.lstore 12, 2) := by decide +kernel
theorem dX11_meets_168 : decode cX11_meets 168 = .ok (.goto (-81), 3) := by decide +kernel
theorem dX11_meets_171 : decode cX11_meets 171 = .ok (.iload 10, 2) := by decide +kernel
theorem dX11_meets_173 : decode cX11_meets 173 = .ok (.ireturn, 1) := by decide +kernel
theorem dX11_lengthBits_0 : decode cX11_lengthBits 0 = .ok (.aload_n 0, 1) := by decide +kernel
theorem dX11_lengthBits_1 : decode cX11_lengthBits 1 = .ok (.getfield 10, 3) := by decide +kernel
theorem dX11_lengthBits_4 : decode cX11_lengthBits 4 = .ok (.getfield 70, 3) := by decide +kernel
theorem dX11_lengthBits_7 : decode cX11_lengthBits 7 = .ok (.iload_n 1, 1) := by decide +kernel
theorem dX11_lengthBits_8 : decode cX11_lengthBits 8 = .ok (.invokevirtual 163, 3) := by decide +kernel
theorem dX11_lengthBits_11 : decode cX11_lengthBits 11 = .ok (.astore_n 2, 1) := by decide +kernel
theorem dX11_lengthBits_12 : decode cX11_lengthBits 12 = .ok (.aload_n 2, 1) := by decide +kernel
theorem dX11_lengthBits_13 : decode cX11_lengthBits 13 = .ok (.ifnonnull 8, 3) := by decide +kernel
theorem dX11_lengthBits_16 : decode cX11_lengthBits 16 = .ok (.ldc 52, 2) := by decide +kernel
theorem dX11_lengthBits_18 : decode cX11_lengthBits 18 = .ok (.goto 10, 3) := by decide +kernel
theorem dX11_lengthBits_21 : decode cX11_lengthBits 21 = .ok (.aload_n 2, 1) := by decide +kernel
theorem dX11_lengthBits_22 : decode cX11_lengthBits 22 = .ok (.invokevirtual 270, 3) := by decide +kernel
theorem dX11_lengthBits_25 : decode cX11_lengthBits 25 = .ok (.invokestatic 273, 3) := by decide +kernel
theorem dX11_lengthBits_28 : decode cX11_lengthBits 28 = .ok (.ireturn, 1) := by decide +kernel
theorem dX11_nearest_0 : decode cX11_nearest 0 = .ok (.aload_n 0, 1) := by decide +kernel
theorem dX11_nearest_1 : decode cX11_nearest 1 = .ok (.getfield 10, 3) := by decide +kernel
theorem dX11_nearest_4 : decode cX11_nearest 4 = .ok (.getfield 70, 3) := by decide +kernel
theorem dX11_nearest_7 : decode cX11_nearest 7 = .ok (.iload_n 1, 1) := by decide +kernel
theorem dX11_nearest_8 : decode cX11_nearest 8 = .ok (.invokevirtual 163, 3) := by decide +kernel
theorem dX11_nearest_11 : decode cX11_nearest 11 = .ok (.astore 4, 2) := by decide +kernel
theorem dX11_nearest_13 : decode cX11_nearest 13 = .ok (.aload 4, 2) := by decide +kernel
theorem dX11_nearest_15 : decode cX11_nearest 15 = .ok (.ifnull 13, 3) := by decide +kernel
theorem dX11_nearest_18 : decode cX11_nearest 18 = .ok (.iload_n 2, 1) := by decide +kernel
theorem dX11_nearest_19 : decode cX11_nearest 19 = .ok (.i2l, 1) := by decide +kernel
theorem dX11_nearest_20 : decode cX11_nearest 20 = .ok (.iload_n 3, 1) := by decide +kernel
theorem dX11_nearest_21 : decode cX11_nearest 21 = .ok (.i2l, 1) := by decide +kernel
theorem dX11_nearest_22 : decode cX11_nearest 22 = .ok (.invokestatic 109, 3) := by decide +kernel
theorem dX11_nearest_25 : decode cX11_nearest 25 = .ok (.ifCond .ne 6, 3) := by decide +kernel
theorem dX11_nearest_28 : decode cX11_nearest 28 = .ok (.ldc 52, 2) := by decide +kernel
theorem dX11_nearest_30 : decode cX11_nearest 30 = .ok (.ireturn, 1) := by decide +kernel
theorem dX11_nearest_31 : decode cX11_nearest 31 = .ok (.aload 4, 2) := by decide +kernel
theorem dX11_nearest_33 : decode cX11_nearest 33 = .ok (.iload_n 2, 1) := by decide +kernel
theorem dX11_nearest_34 : decode cX11_nearest 34 = .ok (.i2l, 1) := by decide +kernel
theorem dX11_nearest_35 : decode cX11_nearest 35 = .ok (.iload_n 3, 1) := by decide +kernel
theorem dX11_nearest_36 : decode cX11_nearest 36 = .ok (.i2l, 1) := by decide +kernel
theorem dX11_nearest_37 : decode cX11_nearest 37 = .ok (.invokevirtual 276, 3) := by decide +kernel
theorem dX11_nearest_40 : decode cX11_nearest 40 = .ok (.ireturn, 1) := by decide +kernel
theorem dX11_undo_0 : decode cX11_undo 0 = .ok (.aload_n 0, 1) := by decide +kernel
theorem dX11_undo_1 : decode cX11_undo 1 = .ok (.getfield 19, 3) := by decide +kernel
theorem dX11_undo_4 : decode cX11_undo 4 = .ok (.getfield 258, 3) := by decide +kernel
theorem dX11_undo_7 : decode cX11_undo 7 = .ok (.ifCond .ne 6, 3) := by decide +kernel
theorem dX11_undo_10 : decode cX11_undo 10 = .ok (.ldc 91, 2) := by decide +kernel
theorem dX11_undo_12 : decode cX11_undo 12 = .ok (.ireturn, 1) := by decide +kernel
theorem dX11_undo_13 : decode cX11_undo 13 = .ok (.aload_n 0, 1) := by decide +kernel
theorem dX11_undo_14 : decode cX11_undo 14 = .ok (.getfield 19, 3) := by decide +kernel
theorem dX11_undo_17 : decode cX11_undo 17 = .ok (.aload_n 0, 1) := by decide +kernel
theorem dX11_undo_18 : decode cX11_undo 18 = .ok (.getfield 10, 3) := by decide +kernel
theorem dX11_undo_21 : decode cX11_undo 21 = .ok (.invokevirtual 280, 3) := by decide +kernel
theorem dX11_undo_24 : decode cX11_undo 24 = .ok (.aload_n 0, 1) := by decide +kernel
theorem dX11_undo_25 : decode cX11_undo 25 = .ok (.getfield 19, 3) := by decide +kernel
theorem dX11_undo_28 : decode cX11_undo 28 = .ok (.getfield 258, 3) := by decide +kernel
theorem dX11_undo_31 : decode cX11_undo 31 = .ok (.ireturn, 1) := by decide +kernel
theorem dX11_type_0 : decode cX11_type 0 = .ok (.iload_n 1, 1) := by decide +kernel
theorem dX11_type_1 : decode cX11_type 1 = .ok (.i2l, 1) := by decide +kernel
theorem dX11_type_2 : decode cX11_type 2 = .ok (.ldc2_w 283, 3) := by decide +kernel
theorem dX11_type_5 : decode cX11_type 5 = .ok (.ldc2_w 285, 3) := by decide +kernel
theorem dX11_type_8 : decode cX11_type 8 = .ok (.invokestatic 48, 3) := by decide +kernel
theorem dX11_type_11 : decode cX11_type 11 = .ok (.ifCond .ne 6, 3) := by decide +kernel
theorem dX11_type_14 : decode cX11_type 14 = .ok (.ldc 52, 2) := by decide +kernel
theorem dX11_type_16 : decode cX11_type 16 = .ok (.ireturn, 1) := by decide +kernel
theorem dX11_type_17 : decode cX11_type 17 = .ok (.aload_n 0, 1) := by decide +kernel
theorem dX11_type_18 : decode cX11_type 18 = .ok (.getfield 33, 3) := by decide +kernel
theorem dX11_type_21 : decode cX11_type 21 = .ok (.invokevirtual 287, 3) := by decide +kernel
theorem dX11_type_24 : decode cX11_type 24 = .ok (.ifCond .eq 6, 3) := by decide +kernel
theorem dX11_type_27 : decode cX11_type 27 = .ok (.ldc 65, 2) := by decide +kernel
theorem dX11_type_29 : decode cX11_type 29 = .ok (.ireturn, 1) := by decide +kernel
theorem dX11_type_30 : decode cX11_type 30 = .ok (.aload_n 0, 1) := by decide +kernel
theorem dX11_type_31 : decode cX11_type 31 = .ok (.getfield 33, 3) := by decide +kernel
theorem dX11_type_34 : decode cX11_type 34 = .ok (.iload_n 1, 1) := by decide +kernel
theorem dX11_type_35 : decode cX11_type 35 = .ok (.invokevirtual 288, 3) := by decide +kernel
theorem dX11_type_38 : decode cX11_type 38 = .ok (.aload_n 0, 1) := by decide +kernel
theorem dX11_type_39 : decode cX11_type 39 = .ok (.getfield 33, 3) := by decide +kernel
theorem dX11_type_42 : decode cX11_type 42 = .ok (.getfield 259, 3) := by decide +kernel
theorem dX11_type_45 : decode cX11_type 45 = .ok (.ireturn, 1) := by decide +kernel
theorem dX11_clearText_0 : decode cX11_clearText 0 = .ok (.aload_n 0, 1) := by decide +kernel
theorem dX11_clearText_1 : decode cX11_clearText 1 = .ok (.getfield 33, 3) := by decide +kernel
theorem dX11_clearText_4 : decode cX11_clearText 4 = .ok (.getfield 259, 3) := by decide +kernel
theorem dX11_clearText_7 : decode cX11_clearText 7 = .ok (.istore_n 1, 1) := by decide +kernel
theorem dX11_clearText_8 : decode cX11_clearText 8 = .ok (.aload_n 0, 1) := by decide +kernel
theorem dX11_clearText_9 : decode cX11_clearText 9 = .ok (.getfield 33, 3) := by decide +kernel
theorem dX11_clearText_12 : decode cX11_clearText 12 = .ok (.iconst 0, 1) := by decide +kernel
theorem dX11_clearText_13 : decode cX11_clearText 13 = .ok (.putfield 259, 3) := by decide +kernel
theorem dX11_clearText_16 : decode cX11_clearText 16 = .ok (.iload_n 1, 1) := by decide +kernel
theorem dX11_clearText_17 : decode cX11_clearText 17 = .ok (.ireturn, 1) := by decide +kernel
theorem dX11_fault_0 : decode cX11_fault 0 = .ok (.iload_n 1, 1) := by decide +kernel
theorem dX11_fault_1 : decode cX11_fault 1 = .ok (.i2l, 1) := by decide +kernel
theorem dX11_fault_2 : decode cX11_fault 2 = .ok (.lconst 0, 1) := by decide +kernel
theorem dX11_fault_3 : decode cX11_fault 3 = .ok (.lconst 1, 1) := by decide +kernel
theorem dX11_fault_4 : decode cX11_fault 4 = .ok (.invokestatic 48, 3) := by decide +kernel
theorem dX11_fault_7 : decode cX11_fault 7 = .ok (.ifCond .ne 6, 3) := by decide +kernel
theorem dX11_fault_10 : decode cX11_fault 10 = .ok (.ldc 52, 2) := by decide +kernel
theorem dX11_fault_12 : decode cX11_fault 12 = .ok (.ireturn, 1) := by decide +kernel
theorem dX11_fault_13 : decode cX11_fault 13 = .ok (.aload_n 0, 1) := by decide +kernel
theorem dX11_fault_14 : decode cX11_fault 14 = .ok (.getfield 40, 3) := by decide +kernel
theorem dX11_fault_17 : decode cX11_fault 17 = .ok (.aload_n 0, 1) := by decide +kernel
theorem dX11_fault_18 : decode cX11_fault 18 = .ok (.getfield 33, 3) := by decide +kernel
theorem dX11_fault_21 : decode cX11_fault 21 = .ok (.invokevirtual 291, 3) := by decide +kernel
theorem dX11_fault_24 : decode cX11_fault 24 = .ok (.aload_n 0, 1) := by decide +kernel
theorem dX11_fault_25 : decode cX11_fault 25 = .ok (.getfield 40, 3) := by decide +kernel
theorem dX11_fault_28 : decode cX11_fault 28 = .ok (.getfield 295, 3) := by decide +kernel
theorem dX11_fault_31 : decode cX11_fault 31 = .ok (.ifCond .ne 6, 3) := by decide +kernel
theorem dX11_fault_34 : decode cX11_fault 34 = .ok (.ldc 98, 2) := by decide +kernel
theorem dX11_fault_36 : decode cX11_fault 36 = .ok (.ireturn, 1) := by decide +kernel
theorem dX11_fault_37 : decode cX11_fault 37 = .ok (.iload_n 1, 1) := by decide +kernel
theorem dX11_fault_38 : decode cX11_fault 38 = .ok (.ifCond .ne 13, 3) := by decide +kernel
theorem dX11_fault_41 : decode cX11_fault 41 = .ok (.aload_n 0, 1) := by decide +kernel
theorem dX11_fault_42 : decode cX11_fault 42 = .ok (.getfield 40, 3) := by decide +kernel
theorem dX11_fault_45 : decode cX11_fault 45 = .ok (.getfield 298, 3) := by decide +kernel
theorem dX11_fault_48 : decode cX11_fault 48 = .ok (.goto 10, 3) := by decide +kernel
theorem dX11_fault_51 : decode cX11_fault 51 = .ok (.aload_n 0, 1) := by decide +kernel
theorem dX11_fault_52 : decode cX11_fault 52 = .ok (.getfield 40, 3) := by decide +kernel
theorem dX11_fault_55 : decode cX11_fault 55 = .ok (.getfield 295, 3) := by decide +kernel
theorem dX11_fault_58 : decode cX11_fault 58 = .ok (.ireturn, 1) := by decide +kernel
theorem dX11_read_0 : decode cX11_read 0 = .ok (.aload_n 0, 1) := by decide +kernel
theorem dX11_read_1 : decode cX11_read 1 = .ok (.getfield 40, 3) := by decide +kernel
theorem dX11_read_4 : decode cX11_read 4 = .ok (.aload_n 0, 1) := by decide +kernel
theorem dX11_read_5 : decode cX11_read 5 = .ok (.getfield 33, 3) := by decide +kernel
theorem dX11_read_8 : decode cX11_read 8 = .ok (.invokevirtual 291, 3) := by decide +kernel
theorem dX11_read_11 : decode cX11_read 11 = .ok (.aload_n 0, 1) := by decide +kernel
theorem dX11_read_12 : decode cX11_read 12 = .ok (.getfield 40, 3) := by decide +kernel
theorem dX11_read_15 : decode cX11_read 15 = .ok (.getfield 295, 3) := by decide +kernel
theorem dX11_read_18 : decode cX11_read 18 = .ok (.ifCond .eq 6, 3) := by decide +kernel
theorem dX11_read_21 : decode cX11_read 21 = .ok (.ldc 91, 2) := by decide +kernel
theorem dX11_read_23 : decode cX11_read 23 = .ok (.ireturn, 1) := by decide +kernel
theorem dX11_read_24 : decode cX11_read 24 = .ok (.aload_n 0, 1) := by decide +kernel
theorem dX11_read_25 : decode cX11_read 25 = .ok (.getfield 19, 3) := by decide +kernel
theorem dX11_read_28 : decode cX11_read 28 = .ok (.aload_n 0, 1) := by decide +kernel
theorem dX11_read_29 : decode cX11_read 29 = .ok (.getfield 10, 3) := by decide +kernel
theorem dX11_read_32 : decode cX11_read 32 = .ok (.invokevirtual 66, 3) := by decide +kernel
theorem dX11_read_35 : decode cX11_read 35 = .ok (.aload_n 0, 1) := by decide +kernel
theorem dX11_read_36 : decode cX11_read 36 = .ok (.getfield 10, 3) := by decide +kernel
theorem dX11_read_39 : decode cX11_read 39 = .ok (.getfield 70, 3) := by decide +kernel
theorem dX11_read_42 : decode cX11_read 42 = .ok (.invokevirtual 74, 3) := by decide +kernel
theorem dX11_read_45 : decode cX11_read 45 = .ok (.aload_n 0, 1) := by decide +kernel
theorem dX11_read_46 : decode cX11_read 46 = .ok (.getfield 10, 3) := by decide +kernel
theorem dX11_read_49 : decode cX11_read 49 = .ok (.getfield 55, 3) := by decide +kernel
theorem dX11_read_52 : decode cX11_read 52 = .ok (.aload_n 0, 1) := by decide +kernel
theorem dX11_read_53 : decode cX11_read 53 = .ok (.getfield 40, 3) := by decide +kernel
theorem dX11_read_56 : decode cX11_read 56 = .ok (.getfield 301, 3) := by decide +kernel
theorem dX11_read_59 : decode cX11_read 59 = .ok (.invokevirtual 302, 3) := by decide +kernel
theorem dX11_read_62 : decode cX11_read 62 = .ok (.aload_n 0, 1) := by decide +kernel
theorem dX11_read_63 : decode cX11_read 63 = .ok (.getfield 10, 3) := by decide +kernel
theorem dX11_read_66 : decode cX11_read 66 = .ok (.getfield 55, 3) := by decide +kernel
theorem dX11_read_69 : decode cX11_read 69 = .ok (.getfield 83, 3) := by decide +kernel
theorem dX11_read_72 : decode cX11_read 72 = .ok (.ireturn, 1) := by decide +kernel
theorem dX11_isWithin_0 : decode cX11_isWithin 0 = .ok (.lload_n 0, 1) := by decide +kernel
theorem dX11_isWithin_1 : decode cX11_isWithin 1 = .ok (.lload_n 2, 1) := by decide +kernel
theorem dX11_isWithin_2 : decode cX11_isWithin 2 = .ok (.lcmp, 1) := by decide +kernel
theorem dX11_isWithin_3 : decode cX11_isWithin 3 = .ok (.ifCond .lt 14, 3) := by decide +kernel
theorem dX11_isWithin_6 : decode cX11_isWithin 6 = .ok (.lload_n 0, 1) := by decide +kernel
theorem dX11_isWithin_7 : decode cX11_isWithin 7 = .ok (.lload 4, 2) := by decide +kernel
theorem dX11_isWithin_9 : decode cX11_isWithin 9 = .ok (.lcmp, 1) := by decide +kernel
theorem dX11_isWithin_10 : decode cX11_isWithin 10 = .ok (.ifCond .gt 7, 3) := by decide +kernel
theorem dX11_isWithin_13 : decode cX11_isWithin 13 = .ok (.iconst 1, 1) := by decide +kernel
theorem dX11_isWithin_14 : decode cX11_isWithin 14 = .ok (.goto 4, 3) := by decide +kernel
theorem dX11_isWithin_17 : decode cX11_isWithin 17 = .ok (.iconst 0, 1) := by decide +kernel
theorem dX11_isWithin_18 : decode cX11_isWithin 18 = .ok (.ireturn, 1) := by decide +kernel
theorem dX11_isPlace_0 : decode cX11_isPlace 0 = .ok (.lload_n 0, 1) := by decide +kernel
theorem dX11_isPlace_1 : decode cX11_isPlace 1 = .ok (.ldc2_w 262, 3) := by decide +kernel
theorem dX11_isPlace_4 : decode cX11_isPlace 4 = .ok (.ldc2_w 264, 3) := by decide +kernel
theorem dX11_isPlace_7 : decode cX11_isPlace 7 = .ok (.invokestatic 48, 3) := by decide +kernel
theorem dX11_isPlace_10 : decode cX11_isPlace 10 = .ok (.ifCond .eq 20, 3) := by decide +kernel
theorem dX11_isPlace_13 : decode cX11_isPlace 13 = .ok (.lload_n 2, 1) := by decide +kernel
theorem dX11_isPlace_14 : decode cX11_isPlace 14 = .ok (.ldc2_w 262, 3) := by decide +kernel
theorem dX11_isPlace_17 : decode cX11_isPlace 17 = .ok (.ldc2_w 264, 3) := by decide +kernel
theorem dX11_isPlace_20 : decode cX11_isPlace 20 = .ok (.invokestatic 48, 3) := by decide +kernel
theorem dX11_isPlace_23 : decode cX11_isPlace 23 = .ok (.ifCond .eq 7, 3) := by decide +kernel
theorem dX11_isPlace_26 : decode cX11_isPlace 26 = .ok (.iconst 1, 1) := by decide +kernel
theorem dX11_isPlace_27 : decode cX11_isPlace 27 = .ok (.goto 4, 3) := by decide +kernel
theorem dX11_isPlace_30 : decode cX11_isPlace 30 = .ok (.iconst 0, 1) := by decide +kernel
theorem dX11_isPlace_31 : decode cX11_isPlace 31 = .ok (.ireturn, 1) := by decide +kernel
theorem dX11_isSign_0 : decode cX11_isSign 0 = .ok (.iload_n 0, 1) := by decide +kernel
theorem dX11_isSign_1 : decode cX11_isSign 1 = .ok (.iconst 1, 1) := by decide +kernel
theorem dX11_isSign_2 : decode cX11_isSign 2 = .ok (.if_icmp .eq 8, 3) := by decide +kernel
theorem dX11_isSign_5 : decode cX11_isSign 5 = .ok (.iload_n 0, 1) := by decide +kernel
theorem dX11_isSign_6 : decode cX11_isSign 6 = .ok (.iconst (-1), 1) := by decide +kernel
theorem dX11_isSign_7 : decode cX11_isSign 7 = .ok (.if_icmp .ne 7, 3) := by decide +kernel
theorem dX11_isSign_10 : decode cX11_isSign 10 = .ok (.iconst 1, 1) := by decide +kernel
theorem dX11_isSign_11 : decode cX11_isSign 11 = .ok (.goto 4, 3) := by decide +kernel
theorem dX11_isSign_14 : decode cX11_isSign 14 = .ok (.iconst 0, 1) := by decide +kernel
theorem dX11_isSign_15 : decode cX11_isSign 15 = .ok (.ireturn, 1) := by decide +kernel
theorem dX11_power_0 : decode cX11_power 0 = .ok (.lconst 1, 1) := by decide +kernel
theorem dX11_power_1 : decode cX11_power 1 = .ok (.lstore_n 3, 1) := by decide +kernel
theorem dX11_power_2 : decode cX11_power 2 = .ok (.iconst 0, 1) := by decide +kernel
theorem dX11_power_3 : decode cX11_power 3 = .ok (.istore 5, 2) := by decide +kernel
theorem dX11_power_5 : decode cX11_power 5 = .ok (.iload 5, 2) := by decide +kernel
theorem dX11_power_7 : decode cX11_power 7 = .ok (.iload_n 2, 1) := by decide +kernel
theorem dX11_power_8 : decode cX11_power 8 = .ok (.if_icmp .ge 13, 3) := by decide +kernel
theorem dX11_power_11 : decode cX11_power 11 = .ok (.lload_n 3, 1) := by decide +kernel
theorem dX11_power_12 : decode cX11_power 12 = .ok (.lload_n 0, 1) := by decide +kernel
theorem dX11_power_13 : decode cX11_power 13 = .ok (.lmul, 1) := by decide +kernel
theorem dX11_power_14 : decode cX11_power 14 = .ok (.lstore_n 3, 1) := by decide +kernel
theorem dX11_power_15 : decode cX11_power 15 = .ok (.iinc 5 1, 3) := by decide +kernel
theorem dX11_power_18 : decode cX11_power 18 = .ok (.goto (-13), 3) := by decide +kernel
theorem dX11_power_21 : decode cX11_power 21 = .ok (.lload_n 3, 1) := by decide +kernel
theorem dX11_power_22 : decode cX11_power 22 = .ok (.lreturn, 1) := by decide +kernel
theorem dX11_rootOf_0 : decode cX11_rootOf 0 = .ok (.lconst 0, 1) := by decide +kernel
theorem dX11_rootOf_1 : decode cX11_rootOf 1 = .ok (.lstore_n 2, 1) := by decide +kernel
theorem dX11_rootOf_2 : decode cX11_rootOf 2 = .ok (.ldc2_w 306, 3) := by decide +kernel
theorem dX11_rootOf_5 : decode cX11_rootOf 5 = .ok (.lstore 4, 2) := by decide +kernel
theorem dX11_rootOf_7 : decode cX11_rootOf 7 = .ok (.lload 4, 2) := by decide +kernel
theorem dX11_rootOf_9 : decode cX11_rootOf 9 = .ok (.lconst 0, 1) := by decide +kernel
theorem dX11_rootOf_10 : decode cX11_rootOf 10 = .ok (.lcmp, 1) := by decide +kernel
theorem dX11_rootOf_11 : decode cX11_rootOf 11 = .ok (.ifCond .le 31, 3) := by decide +kernel
theorem dX11_rootOf_14 : decode cX11_rootOf 14 = .ok (.lload_n 2, 1) := by decide +kernel
theorem dX11_rootOf_15 : decode cX11_rootOf 15 = .ok (.lload 4, 2) := by decide +kernel
theorem dX11_rootOf_17 : decode cX11_rootOf 17 = .ok (.ladd, 1) := by decide +kernel
theorem dX11_rootOf_18 : decode cX11_rootOf 18 = .ok (.lstore 6, 2) := by decide +kernel
theorem dX11_rootOf_20 : decode cX11_rootOf 20 = .ok (.lload 6, 2) := by decide +kernel
theorem dX11_rootOf_22 : decode cX11_rootOf 22 = .ok (.lload 6, 2) := by decide +kernel
theorem dX11_rootOf_24 : decode cX11_rootOf 24 = .ok (.lmul, 1) := by decide +kernel
theorem dX11_rootOf_25 : decode cX11_rootOf 25 = .ok (.lload_n 0, 1) := by decide +kernel
theorem dX11_rootOf_26 : decode cX11_rootOf 26 = .ok (.lcmp, 1) := by decide +kernel
theorem dX11_rootOf_27 : decode cX11_rootOf 27 = .ok (.ifCond .gt 6, 3) := by decide +kernel
theorem dX11_rootOf_30 : decode cX11_rootOf 30 = .ok (.lload 6, 2) := by decide +kernel
theorem dX11_rootOf_32 : decode cX11_rootOf 32 = .ok (.lstore_n 2, 1) := by decide +kernel
theorem dX11_rootOf_33 : decode cX11_rootOf 33 = .ok (.lload 4, 2) := by decide +kernel
theorem dX11_rootOf_35 : decode cX11_rootOf 35 = .ok (.iconst 1, 1) := by decide +kernel
theorem dX11_rootOf_36 : decode cX11_rootOf 36 = .ok (.lshr, 1) := by decide +kernel
theorem dX11_rootOf_37 : decode cX11_rootOf 37 = .ok (.lstore 4, 2) := by decide +kernel
theorem dX11_rootOf_39 : decode cX11_rootOf 39 = .ok (.goto (-32), 3) := by decide +kernel
theorem dX11_rootOf_42 : decode cX11_rootOf 42 = .ok (.lload_n 2, 1) := by decide +kernel
theorem dX11_rootOf_43 : decode cX11_rootOf 43 = .ok (.lreturn, 1) := by decide +kernel
theorem dX11_bitsOfParts_0 : decode cX11_bitsOfParts 0 = .ok (.iload_n 0, 1) := by decide +kernel
theorem dX11_bitsOfParts_1 : decode cX11_bitsOfParts 1 = .ok (.ifCond .gt 5, 3) := by decide +kernel
theorem dX11_bitsOfParts_4 : decode cX11_bitsOfParts 4 = .ok (.iconst 0, 1) := by decide +kernel
theorem dX11_bitsOfParts_5 : decode cX11_bitsOfParts 5 = .ok (.ireturn, 1) := by decide +kernel
theorem dX11_bitsOfParts_6 : decode cX11_bitsOfParts 6 = .ok (.iconst 0, 1) := by decide +kernel
theorem dX11_bitsOfParts_7 : decode cX11_bitsOfParts 7 = .ok (.istore_n 1, 1) := by decide +kernel
theorem dX11_bitsOfParts_8 : decode cX11_bitsOfParts 8 = .ok (.iload_n 1, 1) := by decide +kernel
theorem dX11_bitsOfParts_9 : decode cX11_bitsOfParts 9 = .ok (.bipush 23, 2) := by decide +kernel
theorem dX11_bitsOfParts_11 : decode cX11_bitsOfParts 11 = .ok (.if_icmp .ge 16, 3) := by decide +kernel
theorem dX11_bitsOfParts_14 : decode cX11_bitsOfParts 14 = .ok (.iload_n 0, 1) := by decide +kernel
theorem dX11_bitsOfParts_15 : decode cX11_bitsOfParts 15 = .ok (.iload_n 1, 1) := by decide +kernel
theorem dX11_bitsOfParts_16 : decode cX11_bitsOfParts 16 = .ok (.ishr, 1) := by decide +kernel
theorem dX11_bitsOfParts_17 : decode cX11_bitsOfParts 17 = .ok (.iconst 1, 1) := by decide +kernel
theorem dX11_bitsOfParts_18 : decode cX11_bitsOfParts 18 = .ok (.if_icmp .le 9, 3) := by decide +kernel
theorem dX11_bitsOfParts_21 : decode cX11_bitsOfParts 21 = .ok (.iinc 1 1, 3) := by decide +kernel
theorem dX11_bitsOfParts_24 : decode cX11_bitsOfParts 24 = .ok (.goto (-16), 3) := by decide +kernel
theorem dX11_bitsOfParts_27 : decode cX11_bitsOfParts 27 = .ok (.iload_n 0, 1) := by decide +kernel
theorem dX11_bitsOfParts_28 : decode cX11_bitsOfParts 28 = .ok (.bipush 23, 2) := by decide +kernel
theorem dX11_bitsOfParts_30 : decode cX11_bitsOfParts 30 = .ok (.iload_n 1, 1) := by decide +kernel
theorem dX11_bitsOfParts_31 : decode cX11_bitsOfParts 31 = .ok (.isub, 1) := by decide +kernel
theorem dX11_bitsOfParts_32 : decode cX11_bitsOfParts 32 = .ok (.ishl, 1) := by decide +kernel
theorem dX11_bitsOfParts_33 : decode cX11_bitsOfParts 33 = .ok (.ldc_w 308, 3) := by decide +kernel
theorem dX11_bitsOfParts_36 : decode cX11_bitsOfParts 36 = .ok (.iand, 1) := by decide +kernel
theorem dX11_bitsOfParts_37 : decode cX11_bitsOfParts 37 = .ok (.istore_n 2, 1) := by decide +kernel
theorem dX11_bitsOfParts_38 : decode cX11_bitsOfParts 38 = .ok (.bipush 127, 2) := by decide +kernel
theorem dX11_bitsOfParts_40 : decode cX11_bitsOfParts 40 = .ok (.iload_n 1, 1) := by decide +kernel
theorem dX11_bitsOfParts_41 : decode cX11_bitsOfParts 41 = .ok (.iadd, 1) := by decide +kernel
theorem dX11_bitsOfParts_42 : decode cX11_bitsOfParts 42 = .ok (.bipush 8, 2) := by decide +kernel
theorem dX11_bitsOfParts_44 : decode cX11_bitsOfParts 44 = .ok (.isub, 1) := by decide +kernel
theorem dX11_bitsOfParts_45 : decode cX11_bitsOfParts 45 = .ok (.bipush 23, 2) := by decide +kernel
theorem dX11_bitsOfParts_47 : decode cX11_bitsOfParts 47 = .ok (.ishl, 1) := by decide +kernel
theorem dX11_bitsOfParts_48 : decode cX11_bitsOfParts 48 = .ok (.iload_n 2, 1) := by decide +kernel
theorem dX11_bitsOfParts_49 : decode cX11_bitsOfParts 49 = .ok (.ior, 1) := by decide +kernel
theorem dX11_bitsOfParts_50 : decode cX11_bitsOfParts 50 = .ok (.ireturn, 1) := by decide +kernel
theorem dX12_init_0 : decode cX12_init 0 = .ok (.aload_n 0, 1) := by decide +kernel
theorem dX12_init_1 : decode cX12_init 1 = .ok (.invokespecial 1, 3) := by decide +kernel
theorem dX12_init_4 : decode cX12_init 4 = .ok (.aload_n 0, 1) := by decide +kernel
theorem dX12_init_5 : decode cX12_init 5 = .ok (.sipush 853, 3) := by decide +kernel
theorem dX12_init_8 : decode cX12_init 8 = .ok (.newarray .int, 2) := by decide +kernel
theorem dX12_init_10 : decode cX12_init 10 = .ok (.putfield 7, 3) := by decide +kernel
theorem dX12_init_13 : decode cX12_init 13 = .ok (.aload_n 0, 1) := by decide +kernel
theorem dX12_init_14 : decode cX12_init 14 = .ok (.sipush 853, 3) := by decide +kernel
theorem dX12_init_17 : decode cX12_init 17 = .ok (.newarray .int, 2) := by decide +kernel
theorem dX12_init_19 : decode cX12_init 19 = .ok (.putfield 13, 3) := by decide +kernel
theorem dX12_init_22 : decode cX12_init 22 = .ok (.aload_n 0, 1) := by decide +kernel
theorem dX12_init_23 : decode cX12_init 23 = .ok (.sipush 3412, 3) := by decide +kernel
theorem dX12_init_26 : decode cX12_init 26 = .ok (.newarray .int, 2) := by decide +kernel
theorem dX12_init_28 : decode cX12_init 28 = .ok (.putfield 16, 3) := by decide +kernel
theorem dX12_init_31 : decode cX12_init 31 = .ok (.aload_n 0, 1) := by decide +kernel
theorem dX12_init_32 : decode cX12_init 32 = .ok (.bipush 60, 2) := by decide +kernel
theorem dX12_init_34 : decode cX12_init 34 = .ok (.newarray .int, 2) := by decide +kernel
theorem dX12_init_36 : decode cX12_init 36 = .ok (.putfield 19, 3) := by decide +kernel
theorem dX12_init_39 : decode cX12_init 39 = .ok (.aload_n 0, 1) := by decide +kernel
theorem dX12_init_40 : decode cX12_init 40 = .ok (.iconst 5, 1) := by decide +kernel
theorem dX12_init_41 : decode cX12_init 41 = .ok (.newarray .int, 2) := by decide +kernel
theorem dX12_init_43 : decode cX12_init 43 = .ok (.putfield 22, 3) := by decide +kernel
theorem dX12_init_46 : decode cX12_init 46 = .ok (.aload_n 0, 1) := by decide +kernel
theorem dX12_init_47 : decode cX12_init 47 = .ok (.getfield 7, 3) := by decide +kernel
theorem dX12_init_50 : decode cX12_init 50 = .ok (.iconst 2, 1) := by decide +kernel
theorem dX12_init_51 : decode cX12_init 51 = .ok (.bipush 16, 2) := by decide +kernel
theorem dX12_init_53 : decode cX12_init 53 = .ok (.iastore, 1) := by decide +kernel
theorem dX12_init_54 : decode cX12_init 54 = .ok (.aload_n 0, 1) := by decide +kernel
theorem dX12_init_55 : decode cX12_init 55 = .ok (.getfield 7, 3) := by decide +kernel
theorem dX12_init_58 : decode cX12_init 58 = .ok (.iconst 3, 1) := by decide +kernel
theorem dX12_init_59 : decode cX12_init 59 = .ok (.bipush 64, 2) := by decide +kernel
theorem dX12_init_61 : decode cX12_init 61 = .ok (.iastore, 1) := by decide +kernel
theorem dX12_init_62 : decode cX12_init 62 = .ok (.aload_n 0, 1) := by decide +kernel
theorem dX12_init_63 : decode cX12_init 63 = .ok (.getfield 7, 3) := by decide +kernel
theorem dX12_init_66 : decode cX12_init 66 = .ok (.iconst 4, 1) := by decide +kernel
theorem dX12_init_67 : decode cX12_init 67 = .ok (.bipush 8, 2) := by decide +kernel
theorem dX12_init_69 : decode cX12_init 69 = .ok (.iastore, 1) := by decide +kernel
theorem dX12_init_70 : decode cX12_init 70 = .ok (.return_, 1) := by decide +kernel
theorem dX12_in_0 : decode cX12_in 0 = .ok (.iload_n 0, 1) := by decide +kernel
theorem dX12_in_1 : decode cX12_in 1 = .ok (.iload_n 1, 1) := by decide +kernel
theorem dX12_in_2 : decode cX12_in 2 = .ok (.if_icmp .lt 12, 3) := by decide +kernel
theorem dX12_in_5 : decode cX12_in 5 = .ok (.iload_n 0, 1) := by decide +kernel
theorem dX12_in_6 : decode cX12_in 6 = .ok (.iload_n 2, 1) := by decide +kernel
theorem dX12_in_7 : decode cX12_in 7 = .ok (.if_icmp .gt 7, 3) := by decide +kernel
theorem dX12_in_10 : decode cX12_in 10 = .ok (.iconst 1, 1) := by decide +kernel
theorem dX12_in_11 : decode cX12_in 11 = .ok (.goto 4, 3) := by decide +kernel
theorem dX12_in_14 : decode cX12_in 14 = .ok (.iconst 0, 1) := by decide +kernel
theorem dX12_in_15 : decode cX12_in 15 = .ok (.ireturn, 1) := by decide +kernel
theorem dX12_isIn_0 : decode cX12_isIn 0 = .ok (.iload_n 0, 1) := by decide +kernel
theorem dX12_isIn_1 : decode cX12_isIn 1 = .ok (.sipush (-1024), 3) := by decide +kernel
theorem dX12_isIn_4 : decode cX12_isIn 4 = .ok (.sipush 1024, 3) := by decide +kernel
theorem dX12_isIn_7 : decode cX12_isIn 7 = .ok (.invokestatic 25, 3) := by decide +kernel
theorem dX12_isIn_10 : decode cX12_isIn 10 = .ok (.ireturn, 1) := by decide +kernel
theorem dX12_begins_0 : decode cX12_begins 0 = .ok (.iconst 0, 1) := by decide +kernel
theorem dX12_begins_1 : decode cX12_begins 1 = .ok (.istore_n 1, 1) := by decide +kernel
theorem dX12_begins_2 : decode cX12_begins 2 = .ok (.iload_n 1, 1) := by decide +kernel
theorem dX12_begins_3 : decode cX12_begins 3 = .ok (.sipush 853, 3) := by decide +kernel
theorem dX12_begins_6 : decode cX12_begins 6 = .ok (.if_icmp .ge 21, 3) := by decide +kernel
theorem dX12_begins_9 : decode cX12_begins 9 = .ok (.aload_n 0, 1) := by decide +kernel
theorem dX12_begins_10 : decode cX12_begins 10 = .ok (.getfield 13, 3) := by decide +kernel
theorem dX12_begins_13 : decode cX12_begins 13 = .ok (.iload_n 1, 1) := by decide +kernel
theorem dX12_begins_14 : decode cX12_begins 14 = .ok (.aload_n 0, 1) := by decide +kernel
theorem dX12_begins_15 : decode cX12_begins 15 = .ok (.getfield 7, 3) := by decide +kernel
theorem dX12_begins_18 : decode cX12_begins 18 = .ok (.iload_n 1, 1) := by decide +kernel
theorem dX12_begins_19 : decode cX12_begins 19 = .ok (.iaload, 1) := by decide +kernel
theorem dX12_begins_20 : decode cX12_begins 20 = .ok (.iastore, 1) := by decide +kernel
theorem dX12_begins_21 : decode cX12_begins 21 = .ok (.iinc 1 1, 3) := by decide +kernel
theorem dX12_begins_24 : decode cX12_begins 24 = .ok (.goto (-22), 3) := by decide +kernel
theorem dX12_begins_27 : decode cX12_begins 27 = .ok (.return_, 1) := by decide +kernel
theorem dX12_returns_0 : decode cX12_returns 0 = .ok (.iconst 0, 1) := by decide +kernel
theorem dX12_returns_1 : decode cX12_returns 1 = .ok (.istore_n 1, 1) := by decide +kernel
theorem dX12_returns_2 : decode cX12_returns 2 = .ok (.iload_n 1, 1) := by decide +kernel
theorem dX12_returns_3 : decode cX12_returns 3 = .ok (.sipush 853, 3) := by decide +kernel
theorem dX12_returns_6 : decode cX12_returns 6 = .ok (.if_icmp .ge 21, 3) := by decide +kernel
theorem dX12_returns_9 : decode cX12_returns 9 = .ok (.aload_n 0, 1) := by decide +kernel
theorem dX12_returns_10 : decode cX12_returns 10 = .ok (.getfield 7, 3) := by decide +kernel
theorem dX12_returns_13 : decode cX12_returns 13 = .ok (.iload_n 1, 1) := by decide +kernel
theorem dX12_returns_14 : decode cX12_returns 14 = .ok (.aload_n 0, 1) := by decide +kernel
theorem dX12_returns_15 : decode cX12_returns 15 = .ok (.getfield 13, 3) := by decide +kernel
theorem dX12_returns_18 : decode cX12_returns 18 = .ok (.iload_n 1, 1) := by decide +kernel
theorem dX12_returns_19 : decode cX12_returns 19 = .ok (.iaload, 1) := by decide +kernel
theorem dX12_returns_20 : decode cX12_returns 20 = .ok (.iastore, 1) := by decide +kernel
theorem dX12_returns_21 : decode cX12_returns 21 = .ok (.iinc 1 1, 3) := by decide +kernel
theorem dX12_returns_24 : decode cX12_returns 24 = .ok (.goto (-22), 3) := by decide +kernel
theorem dX12_returns_27 : decode cX12_returns 27 = .ok (.return_, 1) := by decide +kernel
theorem dX12_acted_0 : decode cX12_acted 0 = .ok (.iload_n 1, 1) := by decide +kernel
theorem dX12_acted_1 : decode cX12_acted 1 = .ok (.ldc 29, 2) := by decide +kernel
theorem dX12_acted_3 : decode cX12_acted 3 = .ok (.if_icmp .gt 9, 3) := by decide +kernel
theorem dX12_acted_6 : decode cX12_acted 6 = .ok (.aload_n 0, 1) := by decide +kernel
theorem dX12_acted_7 : decode cX12_acted 7 = .ok (.invokevirtual 30, 3) := by decide +kernel
theorem dX12_acted_10 : decode cX12_acted 10 = .ok (.iload_n 1, 1) := by decide +kernel
theorem dX12_acted_11 : decode cX12_acted 11 = .ok (.ireturn, 1) := by decide +kernel
theorem dX12_acted_12 : decode cX12_acted 12 = .ok (.aload_n 0, 1) := by decide +kernel
theorem dX12_acted_13 : decode cX12_acted 13 = .ok (.getfield 33, 3) := by decide +kernel
theorem dX12_acted_16 : decode cX12_acted 16 = .ok (.iconst 4, 1) := by decide +kernel
theorem dX12_acted_17 : decode cX12_acted 17 = .ok (.if_icmp .ne 44, 3) := by decide +kernel
theorem dX12_acted_20 : decode cX12_acted 20 = .ok (.iconst 0, 1) := by decide +kernel
theorem dX12_acted_21 : decode cX12_acted 21 = .ok (.istore_n 2, 1) := by decide +kernel
theorem dX12_acted_22 : decode cX12_acted 22 = .ok (.iload_n 2, 1) := by decide +kernel
theorem dX12_acted_23 : decode cX12_acted 23 = .ok (.sipush 2559, 3) := by decide +kernel
theorem dX12_acted_26 : decode cX12_acted 26 = .ok (.if_icmp .ge 25, 3) := by decide +kernel
theorem dX12_acted_29 : decode cX12_acted 29 = .ok (.aload_n 0, 1) := by decide +kernel
theorem dX12_acted_30 : decode cX12_acted 30 = .ok (.getfield 16, 3) := by decide +kernel
theorem dX12_acted_33 : decode cX12_acted 33 = .ok (.iload_n 2, 1) := by decide +kernel
theorem dX12_acted_34 : decode cX12_acted 34 = .ok (.aload_n 0, 1) := by decide +kernel
theorem dX12_acted_35 : decode cX12_acted 35 = .ok (.getfield 16, 3) := by decide +kernel
theorem dX12_acted_38 : decode cX12_acted 38 = .ok (.iload_n 2, 1) := by decide +kernel
theorem dX12_acted_39 : decode cX12_acted 39 = .ok (.sipush 853, 3) := by decide +kernel
theorem dX12_acted_42 : decode cX12_acted 42 = .ok (.iadd, 1) := by decide +kernel
theorem dX12_acted_43 : decode cX12_acted 43 = .ok (.iaload, 1) := by decide +kernel
theorem dX12_acted_44 : decode cX12_acted 44 = .ok (.iastore, 1) := by decide +kernel
theorem dX12_acted_45 : decode cX12_acted 45 = .ok (.iinc 2 1, 3) := by decide +kernel
theorem dX12_acted_48 : decode cX12_acted 48 = .ok (.goto (-26), 3) := by decide +kernel
theorem dX12_acted_51 : decode cX12_acted 51 = .ok (.aload_n 0, 1) := by decide +kernel
theorem dX12_acted_52 : decode cX12_acted 52 = .ok (.dup, 1) := by decide +kernel
theorem dX12_acted_53 : decode cX12_acted 53 = .ok (.getfield 33, 3) := by decide +kernel
theorem dX12_acted_56 : decode cX12_acted 56 = .ok (.iconst 1, 1) := by decide +kernel
theorem dX12_acted_57 : decode cX12_acted 57 = .ok (.isub, 1) := by decide +kernel
theorem dX12_acted_58 : decode cX12_acted 58 = .ok (.putfield 33, 3) := by decide +kernel
theorem dX12_acted_61 : decode cX12_acted 61 = .ok (.iconst 0, 1) := by decide +kernel
theorem dX12_acted_62 : decode cX12_acted 62 = .ok (.istore_n 2, 1) := by decide +kernel
theorem dX12_acted_63 : decode cX12_acted 63 = .ok (.iload_n 2, 1) := by decide +kernel
theorem dX12_acted_64 : decode cX12_acted 64 = .ok (.sipush 853, 3) := by decide +kernel
theorem dX12_acted_67 : decode cX12_acted 67 = .ok (.if_icmp .ge 30, 3) := by decide +kernel
theorem dX12_acted_70 : decode cX12_acted 70 = .ok (.aload_n 0, 1) := by decide +kernel
theorem dX12_acted_71 : decode cX12_acted 71 = .ok (.getfield 16, 3) := by decide +kernel
theorem dX12_acted_74 : decode cX12_acted 74 = .ok (.sipush 853, 3) := by decide +kernel
theorem dX12_acted_77 : decode cX12_acted 77 = .ok (.aload_n 0, 1) := by decide +kernel
theorem dX12_acted_78 : decode cX12_acted 78 = .ok (.getfield 33, 3) := by decide +kernel
theorem dX12_acted_81 : decode cX12_acted 81 = .ok (.imul, 1) := by decide +kernel
theorem dX12_acted_82 : decode cX12_acted 82 = .ok (.iload_n 2, 1) := by decide +kernel
theorem dX12_acted_83 : decode cX12_acted 83 = .ok (.iadd, 1) := by decide +kernel
theorem dX12_acted_84 : decode cX12_acted 84 = .ok (.aload_n 0, 1) := by decide +kernel
theorem dX12_acted_85 : decode cX12_acted 85 = .ok (.getfield 13, 3) := by decide +kernel
theorem dX12_acted_88 : decode cX12_acted 88 = .ok (.iload_n 2, 1) := by decide +kernel
theorem dX12_acted_89 : decode cX12_acted 89 = .ok (.iaload, 1) := by decide +kernel
theorem dX12_acted_90 : decode cX12_acted 90 = .ok (.iastore, 1) := by decide +kernel
theorem dX12_acted_91 : decode cX12_acted 91 = .ok (.iinc 2 1, 3) := by decide +kernel
theorem dX12_acted_94 : decode cX12_acted 94 = .ok (.goto (-31), 3) := by decide +kernel
theorem dX12_acted_97 : decode cX12_acted 97 = .ok (.aload_n 0, 1) := by decide +kernel
theorem dX12_acted_98 : decode cX12_acted 98 = .ok (.dup, 1) := by decide +kernel
theorem dX12_acted_99 : decode cX12_acted 99 = .ok (.getfield 33, 3) := by decide +kernel
theorem dX12_acted_102 : decode cX12_acted 102 = .ok (.iconst 1, 1) := by decide +kernel
theorem dX12_acted_103 : decode cX12_acted 103 = .ok (.iadd, 1) := by decide +kernel
theorem dX12_acted_104 : decode cX12_acted 104 = .ok (.putfield 33, 3) := by decide +kernel
theorem dX12_acted_107 : decode cX12_acted 107 = .ok (.iload_n 1, 1) := by decide +kernel
theorem dX12_acted_108 : decode cX12_acted 108 = .ok (.ireturn, 1) := by decide +kernel
theorem dX12_termPart_0 : decode cX12_termPart 0 = .ok (.aload_n 0, 1) := by decide +kernel
theorem dX12_termPart_1 : decode cX12_termPart 1 = .ok (.getfield 7, 3) := by decide +kernel
theorem dX12_termPart_4 : decode cX12_termPart 4 = .ok (.iconst 5, 1) := by decide +kernel
theorem dX12_termPart_5 : decode cX12_termPart 5 = .ok (.iconst 3, 1) := by decide +kernel
theorem dX12_termPart_6 : decode cX12_termPart 6 = .ok (.iload_n 1, 1) := by decide +kernel
theorem dX12_termPart_7 : decode cX12_termPart 7 = .ok (.imul, 1) := by decide +kernel
theorem dX12_termPart_8 : decode cX12_termPart 8 = .ok (.iadd, 1) := by decide +kernel
theorem dX12_termPart_9 : decode cX12_termPart 9 = .ok (.iload_n 2, 1) := by decide +kernel
theorem dX12_termPart_10 : decode cX12_termPart 10 = .ok (.iadd, 1) := by decide +kernel
theorem dX12_termPart_11 : decode cX12_termPart 11 = .ok (.iaload, 1) := by decide +kernel
theorem dX12_termPart_12 : decode cX12_termPart 12 = .ok (.ireturn, 1) := by decide +kernel
theorem dX12_power_0 : decode cX12_power 0 = .ok (.lconst 1, 1) := by decide +kernel
theorem dX12_power_1 : decode cX12_power 1 = .ok (.lstore_n 3, 1) := by decide +kernel
theorem dX12_power_2 : decode cX12_power 2 = .ok (.iconst 0, 1) := by decide +kernel
theorem dX12_power_3 : decode cX12_power 3 = .ok (.istore 5, 2) := by decide +kernel
theorem dX12_power_5 : decode cX12_power 5 = .ok (.iload 5, 2) := by decide +kernel
theorem dX12_power_7 : decode cX12_power 7 = .ok (.iload_n 2, 1) := by decide +kernel
theorem dX12_power_8 : decode cX12_power 8 = .ok (.if_icmp .ge 13, 3) := by decide +kernel
theorem dX12_power_11 : decode cX12_power 11 = .ok (.lload_n 3, 1) := by decide +kernel
theorem dX12_power_12 : decode cX12_power 12 = .ok (.lload_n 0, 1) := by decide +kernel
theorem dX12_power_13 : decode cX12_power 13 = .ok (.lmul, 1) := by decide +kernel
theorem dX12_power_14 : decode cX12_power 14 = .ok (.lstore_n 3, 1) := by decide +kernel
theorem dX12_power_15 : decode cX12_power 15 = .ok (.iinc 5 1, 3) := by decide +kernel
theorem dX12_power_18 : decode cX12_power 18 = .ok (.goto (-13), 3) := by decide +kernel
theorem dX12_power_21 : decode cX12_power 21 = .ok (.lload_n 3, 1) := by decide +kernel
theorem dX12_power_22 : decode cX12_power 22 = .ok (.lreturn, 1) := by decide +kernel
theorem dX12_given_0 : decode cX12_given 0 = .ok (.aload_n 0, 1) := by decide +kernel
theorem dX12_given_1 : decode cX12_given 1 = .ok (.iload_n 1, 1) := by decide +kernel
theorem dX12_given_2 : decode cX12_given 2 = .ok (.iconst 1, 1) := by decide +kernel
theorem dX12_given_3 : decode cX12_given 3 = .ok (.invokevirtual 37, 3) := by decide +kernel
theorem dX12_given_6 : decode cX12_given 6 = .ok (.istore 5, 2) := by decide +kernel
theorem dX12_given_8 : decode cX12_given 8 = .ok (.aload_n 0, 1) := by decide +kernel
theorem dX12_given_9 : decode cX12_given 9 = .ok (.iload_n 1, 1) := by decide +kernel
theorem dX12_given_10 : decode cX12_given 10 = .ok (.iconst 2, 1) := by decide +kernel
theorem dX12_given_11 : decode cX12_given 11 = .ok (.invokevirtual 37, 3) := by decide +kernel
theorem dX12_given_14 : decode cX12_given 14 = .ok (.istore 6, 2) := by decide +kernel
theorem dX12_given_16 : decode cX12_given 16 = .ok (.aload_n 0, 1) := by decide +kernel
theorem dX12_given_17 : decode cX12_given 17 = .ok (.iload_n 1, 1) := by decide +kernel
theorem dX12_given_18 : decode cX12_given 18 = .ok (.iconst 0, 1) := by decide +kernel
theorem dX12_given_19 : decode cX12_given 19 = .ok (.invokevirtual 37, 3) := by decide +kernel
theorem dX12_given_22 : decode cX12_given 22 = .ok (.i2l, 1) := by decide +kernel
theorem dX12_given_23 : decode cX12_given 23 = .ok (.ldc2_w 41, 3) := by decide +kernel
theorem dX12_given_26 : decode cX12_given 26 = .ok (.iconst 3, 1) := by decide +kernel
theorem dX12_given_27 : decode cX12_given 27 = .ok (.iload 5, 2) := by decide +kernel
theorem dX12_given_29 : decode cX12_given 29 = .ok (.isub, 1) := by decide +kernel
theorem dX12_given_30 : decode cX12_given 30 = .ok (.iload 6, 2) := by decide +kernel
theorem dX12_given_32 : decode cX12_given 32 = .ok (.isub, 1) := by decide +kernel
theorem dX12_given_33 : decode cX12_given 33 = .ok (.invokestatic 43, 3) := by decide +kernel
theorem dX12_given_36 : decode cX12_given 36 = .ok (.lmul, 1) := by decide +kernel
theorem dX12_given_37 : decode cX12_given 37 = .ok (.lstore 7, 2) := by decide +kernel
theorem dX12_given_39 : decode cX12_given 39 = .ok (.iload 4, 2) := by decide +kernel
theorem dX12_given_41 : decode cX12_given 41 = .ok (.iconst 1, 1) := by decide +kernel
theorem dX12_given_42 : decode cX12_given 42 = .ok (.if_icmp .ne 37, 3) := by decide +kernel
theorem dX12_given_45 : decode cX12_given 45 = .ok (.iload 5, 2) := by decide +kernel
theorem dX12_given_47 : decode cX12_given 47 = .ok (.ifCond .ne 7, 3) := by decide +kernel
theorem dX12_given_50 : decode cX12_given 50 = .ok (.lconst 0, 1) := by decide +kernel
theorem dX12_given_51 : decode cX12_given 51 = .ok (.goto 27, 3) := by decide +kernel
theorem dX12_given_54 : decode cX12_given 54 = .ok (.lload 7, 2) := by decide +kernel
theorem dX12_given_56 : decode cX12_given 56 = .ok (.iload 5, 2) := by decide +kernel
theorem dX12_given_58 : decode cX12_given 58 = .ok (.i2l, 1) := by decide +kernel
theorem dX12_given_59 : decode cX12_given 59 = .ok (.lmul, 1) := by decide +kernel
theorem dX12_given_60 : decode cX12_given 60 = .ok (.iload_n 2, 1) := by decide +kernel
theorem dX12_given_61 : decode cX12_given 61 = .ok (.i2l, 1) := by decide +kernel
theorem dX12_given_62 : decode cX12_given 62 = .ok (.iload 5, 2) := by decide +kernel
theorem dX12_given_64 : decode cX12_given 64 = .ok (.iconst 1, 1) := by decide +kernel
theorem dX12_given_65 : decode cX12_given 65 = .ok (.isub, 1) := by decide +kernel
theorem dX12_given_66 : decode cX12_given 66 = .ok (.invokestatic 43, 3) := by decide +kernel
theorem dX12_given_69 : decode cX12_given 69 = .ok (.lmul, 1) := by decide +kernel
theorem dX12_given_70 : decode cX12_given 70 = .ok (.iload_n 3, 1) := by decide +kernel
theorem dX12_given_71 : decode cX12_given 71 = .ok (.i2l, 1) := by decide +kernel
theorem dX12_given_72 : decode cX12_given 72 = .ok (.iload 6, 2) := by decide +kernel
theorem dX12_given_74 : decode cX12_given 74 = .ok (.invokestatic 43, 3) := by decide +kernel
theorem dX12_given_77 : decode cX12_given 77 = .ok (.lmul, 1) := by decide +kernel
theorem dX12_given_78 : decode cX12_given 78 = .ok (.lreturn, 1) := by decide +kernel
theorem dX12_given_79 : decode cX12_given 79 = .ok (.iload 4, 2) := by decide +kernel
theorem dX12_given_81 : decode cX12_given 81 = .ok (.iconst 2, 1) := by decide +kernel
theorem dX12_given_82 : decode cX12_given 82 = .ok (.if_icmp .ne 37, 3) := by decide +kernel
theorem dX12_given_85 : decode cX12_given 85 = .ok (.iload 6, 2) := by decide +kernel
theorem dX12_given_87 : decode cX12_given 87 = .ok (.ifCond .ne 7, 3) := by decide +kernel
theorem dX12_given_90 : decode cX12_given 90 = .ok (.lconst 0, 1) := by decide +kernel
theorem dX12_given_91 : decode cX12_given 91 = .ok (.goto 27, 3) := by decide +kernel
theorem dX12_given_94 : decode cX12_given 94 = .ok (.lload 7, 2) := by decide +kernel
theorem dX12_given_96 : decode cX12_given 96 = .ok (.iload 6, 2) := by decide +kernel
theorem dX12_given_98 : decode cX12_given 98 = .ok (.i2l, 1) := by decide +kernel
theorem dX12_given_99 : decode cX12_given 99 = .ok (.lmul, 1) := by decide +kernel
theorem dX12_given_100 : decode cX12_given 100 = .ok (.iload_n 2, 1) := by decide +kernel
theorem dX12_given_101 : decode cX12_given 101 = .ok (.i2l, 1) := by decide +kernel
theorem dX12_given_102 : decode cX12_given 102 = .ok (.iload 5, 2) := by decide +kernel
theorem dX12_given_104 : decode cX12_given 104 = .ok (.invokestatic 43, 3) := by decide +kernel
theorem dX12_given_107 : decode cX12_given 107 = .ok (.lmul, 1) := by decide +kernel
theorem dX12_given_108 : decode cX12_given 108 = .ok (.iload_n 3, 1) := by decide +kernel
theorem dX12_given_109 : decode cX12_given 109 = .ok (.i2l, 1) := by decide +kernel
theorem dX12_given_110 : decode cX12_given 110 = .ok (.iload 6, 2) := by decide +kernel
theorem dX12_given_112 : decode cX12_given 112 = .ok (.iconst 1, 1) := by decide +kernel
theorem dX12_given_113 : decode cX12_given 113 = .ok (.isub, 1) := by decide +kernel
theorem dX12_given_114 : decode cX12_given 114 = .ok (.invokestatic 43, 3) := by decide +kernel
theorem dX12_given_117 : decode cX12_given 117 = .ok (.lmul, 1) := by decide +kernel
theorem dX12_given_118 : decode cX12_given 118 = .ok (.lreturn, 1) := by decide +kernel
theorem dX12_given_119 : decode cX12_given 119 = .ok (.lload 7, 2) := by decide +kernel
theorem dX12_given_121 : decode cX12_given 121 = .ok (.iload_n 2, 1) := by decide +kernel
theorem dX12_given_122 : decode cX12_given 122 = .ok (.i2l, 1) := by decide +kernel
theorem dX12_given_123 : decode cX12_given 123 = .ok (.iload 5, 2) := by decide +kernel
theorem dX12_given_125 : decode cX12_given 125 = .ok (.invokestatic 43, 3) := by decide +kernel
theorem dX12_given_128 : decode cX12_given 128 = .ok (.lmul, 1) := by decide +kernel
theorem dX12_given_129 : decode cX12_given 129 = .ok (.iload_n 3, 1) := by decide +kernel
theorem dX12_given_130 : decode cX12_given 130 = .ok (.i2l, 1) := by decide +kernel
theorem dX12_given_131 : decode cX12_given 131 = .ok (.iload 6, 2) := by decide +kernel
theorem dX12_given_133 : decode cX12_given 133 = .ok (.invokestatic 43, 3) := by decide +kernel
theorem dX12_given_136 : decode cX12_given 136 = .ok (.lmul, 1) := by decide +kernel
theorem dX12_given_137 : decode cX12_given 137 = .ok (.lreturn, 1) := by decide +kernel
theorem dX12_sum_0 : decode cX12_sum 0 = .ok (.lconst 0, 1) := by decide +kernel
theorem dX12_sum_1 : decode cX12_sum 1 = .ok (.lstore 4, 2) := by decide +kernel
theorem dX12_sum_3 : decode cX12_sum 3 = .ok (.iconst 0, 1) := by decide +kernel
theorem dX12_sum_4 : decode cX12_sum 4 = .ok (.istore 6, 2) := by decide +kernel
theorem dX12_sum_6 : decode cX12_sum 6 = .ok (.iload 6, 2) := by decide +kernel
theorem dX12_sum_8 : decode cX12_sum 8 = .ok (.aload_n 0, 1) := by decide +kernel
theorem dX12_sum_9 : decode cX12_sum 9 = .ok (.getfield 7, 3) := by decide +kernel
theorem dX12_sum_12 : decode cX12_sum 12 = .ok (.iconst 0, 1) := by decide +kernel
theorem dX12_sum_13 : decode cX12_sum 13 = .ok (.iaload, 1) := by decide +kernel
theorem dX12_sum_14 : decode cX12_sum 14 = .ok (.if_icmp .ge 23, 3) := by decide +kernel
theorem dX12_sum_17 : decode cX12_sum 17 = .ok (.lload 4, 2) := by decide +kernel
theorem dX12_sum_19 : decode cX12_sum 19 = .ok (.aload_n 0, 1) := by decide +kernel
theorem dX12_sum_20 : decode cX12_sum 20 = .ok (.iload 6, 2) := by decide +kernel
theorem dX12_sum_22 : decode cX12_sum 22 = .ok (.iload_n 1, 1) := by decide +kernel
theorem dX12_sum_23 : decode cX12_sum 23 = .ok (.iload_n 2, 1) := by decide +kernel
theorem dX12_sum_24 : decode cX12_sum 24 = .ok (.iload_n 3, 1) := by decide +kernel
theorem dX12_sum_25 : decode cX12_sum 25 = .ok (.invokevirtual 47, 3) := by decide +kernel
theorem dX12_sum_28 : decode cX12_sum 28 = .ok (.ladd, 1) := by decide +kernel
theorem dX12_sum_29 : decode cX12_sum 29 = .ok (.lstore 4, 2) := by decide +kernel
theorem dX12_sum_31 : decode cX12_sum 31 = .ok (.iinc 6 1, 3) := by decide +kernel
theorem dX12_sum_34 : decode cX12_sum 34 = .ok (.goto (-28), 3) := by decide +kernel
theorem dX12_sum_37 : decode cX12_sum 37 = .ok (.lload 4, 2) := by decide +kernel
theorem dX12_sum_39 : decode cX12_sum 39 = .ok (.lreturn, 1) := by decide +kernel
theorem dX12_root_0 : decode cX12_root 0 = .ok (.lconst 0, 1) := by decide +kernel
theorem dX12_root_1 : decode cX12_root 1 = .ok (.lstore_n 2, 1) := by decide +kernel
theorem dX12_root_2 : decode cX12_root 2 = .ok (.ldc2_w 51, 3) := by decide +kernel
theorem dX12_root_5 : decode cX12_root 5 = .ok (.lstore 4, 2) := by decide +kernel
theorem dX12_root_7 : decode cX12_root 7 = .ok (.lload 4, 2) := by decide +kernel
theorem dX12_root_9 : decode cX12_root 9 = .ok (.lconst 0, 1) := by decide +kernel
theorem dX12_root_10 : decode cX12_root 10 = .ok (.lcmp, 1) := by decide +kernel
theorem dX12_root_11 : decode cX12_root 11 = .ok (.ifCond .le 37, 3) := by decide +kernel
theorem dX12_root_14 : decode cX12_root 14 = .ok (.lload_n 2, 1) := by decide +kernel
theorem dX12_root_15 : decode cX12_root 15 = .ok (.lload 4, 2) := by decide +kernel
theorem dX12_root_17 : decode cX12_root 17 = .ok (.ladd, 1) := by decide +kernel
theorem dX12_root_18 : decode cX12_root 18 = .ok (.lload_n 2, 1) := by decide +kernel
theorem dX12_root_19 : decode cX12_root 19 = .ok (.lload 4, 2) := by decide +kernel
theorem dX12_root_21 : decode cX12_root 21 = .ok (.ladd, 1) := by decide +kernel
theorem dX12_root_22 : decode cX12_root 22 = .ok (.lmul, 1) := by decide +kernel
theorem dX12_root_23 : decode cX12_root 23 = .ok (.lload_n 0, 1) := by decide +kernel
theorem dX12_root_24 : decode cX12_root 24 = .ok (.lcmp, 1) := by decide +kernel
theorem dX12_root_25 : decode cX12_root 25 = .ok (.ifCond .gt 10, 3) := by decide +kernel
theorem dX12_root_28 : decode cX12_root 28 = .ok (.lload_n 2, 1) := by decide +kernel
theorem dX12_root_29 : decode cX12_root 29 = .ok (.lload 4, 2) := by decide +kernel
theorem dX12_root_31 : decode cX12_root 31 = .ok (.ladd, 1) := by decide +kernel
theorem dX12_root_32 : decode cX12_root 32 = .ok (.goto 4, 3) := by decide +kernel
theorem dX12_root_35 : decode cX12_root 35 = .ok (.lload_n 2, 1) := by decide +kernel
theorem dX12_root_36 : decode cX12_root 36 = .ok (.lstore_n 2, 1) := by decide +kernel
theorem dX12_root_37 : decode cX12_root 37 = .ok (.lload 4, 2) := by decide +kernel
theorem dX12_root_39 : decode cX12_root 39 = .ok (.ldc2_w 53, 3) := by decide +kernel
theorem dX12_root_42 : decode cX12_root 42 = .ok (.ldiv, 1) := by decide +kernel
theorem dX12_root_43 : decode cX12_root 43 = .ok (.lstore 4, 2) := by decide +kernel
theorem dX12_root_45 : decode cX12_root 45 = .ok (.goto (-38), 3) := by decide +kernel
theorem dX12_root_48 : decode cX12_root 48 = .ok (.lload_n 2, 1) := by decide +kernel
theorem dX12_root_49 : decode cX12_root 49 = .ok (.lreturn, 1) := by decide +kernel
theorem dX12_goesRound_0 : decode cX12_goesRound 0 = .ok (.aload_n 0, 1) := by decide +kernel
theorem dX12_goesRound_1 : decode cX12_goesRound 1 = .ok (.aload_n 0, 1) := by decide +kernel
theorem dX12_goesRound_2 : decode cX12_goesRound 2 = .ok (.getfield 55, 3) := by decide +kernel
theorem dX12_goesRound_5 : decode cX12_goesRound 5 = .ok (.aload_n 0, 1) := by decide +kernel
theorem dX12_goesRound_6 : decode cX12_goesRound 6 = .ok (.getfield 58, 3) := by decide +kernel
theorem dX12_goesRound_9 : decode cX12_goesRound 9 = .ok (.iconst 1, 1) := by decide +kernel
theorem dX12_goesRound_10 : decode cX12_goesRound 10 = .ok (.invokevirtual 61, 3) := by decide +kernel
theorem dX12_goesRound_13 : decode cX12_goesRound 13 = .ok (.lstore_n 1, 1) := by decide +kernel
theorem dX12_goesRound_14 : decode cX12_goesRound 14 = .ok (.aload_n 0, 1) := by decide +kernel
theorem dX12_goesRound_15 : decode cX12_goesRound 15 = .ok (.aload_n 0, 1) := by decide +kernel
theorem dX12_goesRound_16 : decode cX12_goesRound 16 = .ok (.getfield 55, 3) := by decide +kernel
theorem dX12_goesRound_19 : decode cX12_goesRound 19 = .ok (.aload_n 0, 1) := by decide +kernel
theorem dX12_goesRound_20 : decode cX12_goesRound 20 = .ok (.getfield 58, 3) := by decide +kernel
theorem dX12_goesRound_23 : decode cX12_goesRound 23 = .ok (.iconst 2, 1) := by decide +kernel
theorem dX12_goesRound_24 : decode cX12_goesRound 24 = .ok (.invokevirtual 61, 3) := by decide +kernel
theorem dX12_goesRound_27 : decode cX12_goesRound 27 = .ok (.lstore_n 3, 1) := by decide +kernel
theorem dX12_goesRound_28 : decode cX12_goesRound 28 = .ok (.lload_n 1, 1) := by decide +kernel
theorem dX12_goesRound_29 : decode cX12_goesRound 29 = .ok (.lload_n 1, 1) := by decide +kernel
theorem dX12_goesRound_30 : decode cX12_goesRound 30 = .ok (.lmul, 1) := by decide +kernel
theorem dX12_goesRound_31 : decode cX12_goesRound 31 = .ok (.lload_n 3, 1) := by decide +kernel
theorem dX12_goesRound_32 : decode cX12_goesRound 32 = .ok (.lload_n 3, 1) := by decide +kernel
theorem dX12_goesRound_33 : decode cX12_goesRound 33 = .ok (.lmul, 1) := by decide +kernel
theorem dX12_goesRound_34 : decode cX12_goesRound 34 = .ok (.ladd, 1) := by decide +kernel
theorem dX12_goesRound_35 : decode cX12_goesRound 35 = .ok (.lstore 5, 2) := by decide +kernel
theorem dX12_goesRound_37 : decode cX12_goesRound 37 = .ok (.lload 5, 2) := by decide +kernel
theorem dX12_goesRound_39 : decode cX12_goesRound 39 = .ok (.lconst 0, 1) := by decide +kernel
theorem dX12_goesRound_40 : decode cX12_goesRound 40 = .ok (.lcmp, 1) := by decide +kernel
theorem dX12_goesRound_41 : decode cX12_goesRound 41 = .ok (.ifCond .ne 10, 3) := by decide +kernel
theorem dX12_goesRound_44 : decode cX12_goesRound 44 = .ok (.aload_n 0, 1) := by decide +kernel
theorem dX12_goesRound_45 : decode cX12_goesRound 45 = .ok (.iconst (-1), 1) := by decide +kernel
theorem dX12_goesRound_46 : decode cX12_goesRound 46 = .ok (.putfield 65, 3) := by decide +kernel
theorem dX12_goesRound_49 : decode cX12_goesRound 49 = .ok (.iconst 0, 1) := by decide +kernel
theorem dX12_goesRound_50 : decode cX12_goesRound 50 = .ok (.ireturn, 1) := by decide +kernel
theorem dX12_goesRound_51 : decode cX12_goesRound 51 = .ok (.aload_n 0, 1) := by decide +kernel
theorem dX12_goesRound_52 : decode cX12_goesRound 52 = .ok (.aload_n 0, 1) := by decide +kernel
theorem dX12_goesRound_53 : decode cX12_goesRound 53 = .ok (.getfield 55, 3) := by decide +kernel
theorem dX12_goesRound_56 : decode cX12_goesRound 56 = .ok (.aload_n 0, 1) := by decide +kernel
theorem dX12_goesRound_57 : decode cX12_goesRound 57 = .ok (.getfield 58, 3) := by decide +kernel
theorem dX12_goesRound_60 : decode cX12_goesRound 60 = .ok (.iconst 0, 1) := by decide +kernel
theorem dX12_goesRound_61 : decode cX12_goesRound 61 = .ok (.invokevirtual 61, 3) := by decide +kernel
theorem dX12_goesRound_64 : decode cX12_goesRound 64 = .ok (.lstore 7, 2) := by decide +kernel
theorem dX12_goesRound_66 : decode cX12_goesRound 66 = .ok (.aload_n 0, 1) := by decide +kernel
theorem dX12_goesRound_67 : decode cX12_goesRound 67 = .ok (.getfield 55, 3) := by decide +kernel
theorem dX12_goesRound_70 : decode cX12_goesRound 70 = .ok (.i2l, 1) := by decide +kernel
theorem dX12_goesRound_71 : decode cX12_goesRound 71 = .ok (.lload 7, 2) := by decide +kernel
theorem dX12_goesRound_73 : decode cX12_goesRound 73 = .ok (.lload_n 1, 1) := by decide +kernel
theorem dX12_goesRound_74 : decode cX12_goesRound 74 = .ok (.lmul, 1) := by decide +kernel
theorem dX12_goesRound_75 : decode cX12_goesRound 75 = .ok (.lload 5, 2) := by decide +kernel
theorem dX12_goesRound_77 : decode cX12_goesRound 77 = .ok (.ldiv, 1) := by decide +kernel
theorem dX12_goesRound_78 : decode cX12_goesRound 78 = .ok (.lsub, 1) := by decide +kernel
theorem dX12_goesRound_79 : decode cX12_goesRound 79 = .ok (.lstore 9, 2) := by decide +kernel
theorem dX12_goesRound_81 : decode cX12_goesRound 81 = .ok (.aload_n 0, 1) := by decide +kernel
theorem dX12_goesRound_82 : decode cX12_goesRound 82 = .ok (.getfield 58, 3) := by decide +kernel
theorem dX12_goesRound_85 : decode cX12_goesRound 85 = .ok (.i2l, 1) := by decide +kernel
theorem dX12_goesRound_86 : decode cX12_goesRound 86 = .ok (.lload 7, 2) := by decide +kernel
theorem dX12_goesRound_88 : decode cX12_goesRound 88 = .ok (.lload_n 3, 1) := by decide +kernel
theorem dX12_goesRound_89 : decode cX12_goesRound 89 = .ok (.lmul, 1) := by decide +kernel
theorem dX12_goesRound_90 : decode cX12_goesRound 90 = .ok (.lload 5, 2) := by decide +kernel
theorem dX12_goesRound_92 : decode cX12_goesRound 92 = .ok (.ldiv, 1) := by decide +kernel
theorem dX12_goesRound_93 : decode cX12_goesRound 93 = .ok (.lsub, 1) := by decide +kernel
theorem dX12_goesRound_94 : decode cX12_goesRound 94 = .ok (.lstore 11, 2) := by decide +kernel
theorem dX12_goesRound_96 : decode cX12_goesRound 96 = .ok (.lload 9, 2) := by decide +kernel
theorem dX12_goesRound_98 : decode cX12_goesRound 98 = .ok (.ldc2_w 68, 3) := by decide +kernel
theorem dX12_goesRound_101 : decode cX12_goesRound 101 = .ok (.lcmp, 1) := by decide +kernel
theorem dX12_goesRound_102 : decode cX12_goesRound 102 = .ok (.ifCond .lt 30, 3) := by decide +kernel
theorem dX12_goesRound_105 : decode cX12_goesRound 105 = .ok (.lload 9, 2) := by decide +kernel
theorem dX12_goesRound_107 : decode cX12_goesRound 107 = .ok (.ldc2_w 70, 3) := by decide +kernel
theorem dX12_goesRound_110 : decode cX12_goesRound 110 = .ok (.lcmp, 1) := by decide +kernel
theorem dX12_goesRound_111 : decode cX12_goesRound 111 = .ok (.ifCond .gt 21, 3) := by decide +kernel
theorem dX12_goesRound_114 : decode cX12_goesRound 114 = .ok (.lload 11, 2) := by decide +kernel
theorem dX12_goesRound_116 : decode cX12_goesRound 116 = .ok (.ldc2_w 68, 3) := by decide +kernel
theorem dX12_goesRound_119 : decode cX12_goesRound 119 = .ok (.lcmp, 1) := by decide +kernel
theorem dX12_goesRound_120 : decode cX12_goesRound 120 = .ok (.ifCond .lt 12, 3) := by decide +kernel
theorem dX12_goesRound_123 : decode cX12_goesRound 123 = .ok (.lload 11, 2) := by decide +kernel
theorem dX12_goesRound_125 : decode cX12_goesRound 125 = .ok (.ldc2_w 70, 3) := by decide +kernel
theorem dX12_goesRound_128 : decode cX12_goesRound 128 = .ok (.lcmp, 1) := by decide +kernel
theorem dX12_goesRound_129 : decode cX12_goesRound 129 = .ok (.ifCond .le 10, 3) := by decide +kernel
theorem dX12_goesRound_132 : decode cX12_goesRound 132 = .ok (.aload_n 0, 1) := by decide +kernel
theorem dX12_goesRound_133 : decode cX12_goesRound 133 = .ok (.iconst (-1), 1) := by decide +kernel
theorem dX12_goesRound_134 : decode cX12_goesRound 134 = .ok (.putfield 65, 3) := by decide +kernel
theorem dX12_goesRound_137 : decode cX12_goesRound 137 = .ok (.iconst 0, 1) := by decide +kernel
theorem dX12_goesRound_138 : decode cX12_goesRound 138 = .ok (.ireturn, 1) := by decide +kernel
theorem dX12_goesRound_139 : decode cX12_goesRound 139 = .ok (.lload 9, 2) := by decide +kernel
theorem dX12_goesRound_141 : decode cX12_goesRound 141 = .ok (.aload_n 0, 1) := by decide +kernel
theorem dX12_goesRound_142 : decode cX12_goesRound 142 = .ok (.getfield 55, 3) := by decide +kernel
theorem dX12_goesRound_145 : decode cX12_goesRound 145 = .ok (.i2l, 1) := by decide +kernel
theorem dX12_goesRound_146 : decode cX12_goesRound 146 = .ok (.lcmp, 1) := by decide +kernel
theorem dX12_goesRound_147 : decode cX12_goesRound 147 = .ok (.ifCond .ne 14, 3) := by decide +kernel
theorem dX12_goesRound_150 : decode cX12_goesRound 150 = .ok (.lload 11, 2) := by decide +kernel
theorem dX12_goesRound_152 : decode cX12_goesRound 152 = .ok (.aload_n 0, 1) := by decide +kernel
theorem dX12_goesRound_153 : decode cX12_goesRound 153 = .ok (.getfield 58, 3) := by decide +kernel
theorem dX12_goesRound_156 : decode cX12_goesRound 156 = .ok (.i2l, 1) := by decide +kernel
theorem dX12_goesRound_157 : decode cX12_goesRound 157 = .ok (.lcmp, 1) := by decide +kernel
theorem dX12_goesRound_158 : decode cX12_goesRound 158 = .ok (.ifCond .eq 7, 3) := by decide +kernel
theorem dX12_goesRound_161 : decode cX12_goesRound 161 = .ok (.iconst 1, 1) := by decide +kernel
theorem dX12_goesRound_162 : decode cX12_goesRound 162 = .ok (.goto 4, 3) := by decide +kernel
theorem dX12_goesRound_165 : decode cX12_goesRound 165 = .ok (.iconst 0, 1) := by decide +kernel
theorem dX12_goesRound_166 : decode cX12_goesRound 166 = .ok (.istore 13, 2) := by decide +kernel
theorem dX12_goesRound_168 : decode cX12_goesRound 168 = .ok (.aload_n 0, 1) := by decide +kernel
theorem dX12_goesRound_169 : decode cX12_goesRound 169 = .ok (.lload 9, 2) := by decide +kernel
theorem dX12_goesRound_171 : decode cX12_goesRound 171 = .ok (.l2i, 1) := by decide +kernel
theorem dX12_goesRound_172 : decode cX12_goesRound 172 = .ok (.putfield 55, 3) := by decide +kernel
theorem dX12_goesRound_175 : decode cX12_goesRound 175 = .ok (.aload_n 0, 1) := by decide +kernel
theorem dX12_goesRound_176 : decode cX12_goesRound 176 = .ok (.lload 11, 2) := by decide +kernel
theorem dX12_goesRound_178 : decode cX12_goesRound 178 = .ok (.l2i, 1) := by decide +kernel
theorem dX12_goesRound_179 : decode cX12_goesRound 179 = .ok (.putfield 58, 3) := by decide +kernel
theorem dX12_goesRound_182 : decode cX12_goesRound 182 = .ok (.aload_n 0, 1) := by decide +kernel
theorem dX12_goesRound_183 : decode cX12_goesRound 183 = .ok (.dup, 1) := by decide +kernel
theorem dX12_goesRound_184 : decode cX12_goesRound 184 = .ok (.getfield 65, 3) := by decide +kernel
theorem dX12_goesRound_187 : decode cX12_goesRound 187 = .ok (.iconst 1, 1) := by decide +kernel
theorem dX12_goesRound_188 : decode cX12_goesRound 188 = .ok (.iadd, 1) := by decide +kernel
theorem dX12_goesRound_189 : decode cX12_goesRound 189 = .ok (.putfield 65, 3) := by decide +kernel
theorem dX12_goesRound_192 : decode cX12_goesRound 192 = .ok (.iload 13, 2) := by decide +kernel
theorem dX12_goesRound_194 : decode cX12_goesRound 194 = .ok (.ireturn, 1) := by decide +kernel
theorem dX12_corrects_0 : decode cX12_corrects 0 = .ok (.lload_n 1, 1) := by decide +kernel
theorem dX12_corrects_1 : decode cX12_corrects 1 = .ok (.ldc2_w 68, 3) := by decide +kernel
theorem dX12_corrects_4 : decode cX12_corrects 4 = .ok (.lcmp, 1) := by decide +kernel
theorem dX12_corrects_5 : decode cX12_corrects 5 = .ok (.ifCond .lt 27, 3) := by decide +kernel
theorem dX12_corrects_8 : decode cX12_corrects 8 = .ok (.lload_n 1, 1) := by decide +kernel
theorem dX12_corrects_9 : decode cX12_corrects 9 = .ok (.ldc2_w 70, 3) := by decide +kernel
theorem dX12_corrects_12 : decode cX12_corrects 12 = .ok (.lcmp, 1) := by decide +kernel
theorem dX12_corrects_13 : decode cX12_corrects 13 = .ok (.ifCond .gt 19, 3) := by decide +kernel
theorem dX12_corrects_16 : decode cX12_corrects 16 = .ok (.lload_n 3, 1) := by decide +kernel
theorem dX12_corrects_17 : decode cX12_corrects 17 = .ok (.ldc2_w 68, 3) := by decide +kernel
theorem dX12_corrects_20 : decode cX12_corrects 20 = .ok (.lcmp, 1) := by decide +kernel
theorem dX12_corrects_21 : decode cX12_corrects 21 = .ok (.ifCond .lt 11, 3) := by decide +kernel
theorem dX12_corrects_24 : decode cX12_corrects 24 = .ok (.lload_n 3, 1) := by decide +kernel
theorem dX12_corrects_25 : decode cX12_corrects 25 = .ok (.ldc2_w 70, 3) := by decide +kernel
theorem dX12_corrects_28 : decode cX12_corrects 28 = .ok (.lcmp, 1) := by decide +kernel
theorem dX12_corrects_29 : decode cX12_corrects 29 = .ok (.ifCond .le 5, 3) := by decide +kernel
theorem dX12_corrects_32 : decode cX12_corrects 32 = .ok (.iconst 0, 1) := by decide +kernel
theorem dX12_corrects_33 : decode cX12_corrects 33 = .ok (.ireturn, 1) := by decide +kernel
theorem dX12_corrects_34 : decode cX12_corrects 34 = .ok (.aload_n 0, 1) := by decide +kernel
theorem dX12_corrects_35 : decode cX12_corrects 35 = .ok (.lload_n 1, 1) := by decide +kernel
theorem dX12_corrects_36 : decode cX12_corrects 36 = .ok (.l2i, 1) := by decide +kernel
theorem dX12_corrects_37 : decode cX12_corrects 37 = .ok (.putfield 55, 3) := by decide +kernel
theorem dX12_corrects_40 : decode cX12_corrects 40 = .ok (.aload_n 0, 1) := by decide +kernel
theorem dX12_corrects_41 : decode cX12_corrects 41 = .ok (.lload_n 3, 1) := by decide +kernel
theorem dX12_corrects_42 : decode cX12_corrects 42 = .ok (.l2i, 1) := by decide +kernel
theorem dX12_corrects_43 : decode cX12_corrects 43 = .ok (.putfield 58, 3) := by decide +kernel
theorem dX12_corrects_46 : decode cX12_corrects 46 = .ok (.aload_n 0, 1) := by decide +kernel
theorem dX12_corrects_47 : decode cX12_corrects 47 = .ok (.iconst 0, 1) := by decide +kernel
theorem dX12_corrects_48 : decode cX12_corrects 48 = .ok (.putfield 65, 3) := by decide +kernel
theorem dX12_corrects_51 : decode cX12_corrects 51 = .ok (.aload_n 0, 1) := by decide +kernel
theorem dX12_corrects_52 : decode cX12_corrects 52 = .ok (.getfield 65, 3) := by decide +kernel
theorem dX12_corrects_55 : decode cX12_corrects 55 = .ok (.aload_n 0, 1) := by decide +kernel
theorem dX12_corrects_56 : decode cX12_corrects 56 = .ok (.getfield 7, 3) := by decide +kernel
theorem dX12_corrects_59 : decode cX12_corrects 59 = .ok (.iconst 4, 1) := by decide +kernel
theorem dX12_corrects_60 : decode cX12_corrects 60 = .ok (.iaload, 1) := by decide +kernel
theorem dX12_corrects_61 : decode cX12_corrects 61 = .ok (.if_icmp .ge 23, 3) := by decide +kernel
theorem dX12_corrects_64 : decode cX12_corrects 64 = .ok (.aload_n 0, 1) := by decide +kernel
theorem dX12_corrects_65 : decode cX12_corrects 65 = .ok (.invokevirtual 72, 3) := by decide +kernel
theorem dX12_corrects_68 : decode cX12_corrects 68 = .ok (.ifCond .ne (-17), 3) := by decide +kernel
theorem dX12_corrects_71 : decode cX12_corrects 71 = .ok (.aload_n 0, 1) := by decide +kernel
theorem dX12_corrects_72 : decode cX12_corrects 72 = .ok (.getfield 65, 3) := by decide +kernel
theorem dX12_corrects_75 : decode cX12_corrects 75 = .ok (.ifCond .le 7, 3) := by decide +kernel
theorem dX12_corrects_78 : decode cX12_corrects 78 = .ok (.iconst 1, 1) := by decide +kernel
theorem dX12_corrects_79 : decode cX12_corrects 79 = .ok (.goto 4, 3) := by decide +kernel
theorem dX12_corrects_82 : decode cX12_corrects 82 = .ok (.iconst 0, 1) := by decide +kernel
theorem dX12_corrects_83 : decode cX12_corrects 83 = .ok (.ireturn, 1) := by decide +kernel
theorem dX12_corrects_84 : decode cX12_corrects 84 = .ok (.iconst 0, 1) := by decide +kernel
theorem dX12_corrects_85 : decode cX12_corrects 85 = .ok (.ireturn, 1) := by decide +kernel
theorem dX12_walkAt_0 : decode cX12_walkAt 0 = .ok (.bipush 23, 2) := by decide +kernel
theorem dX12_walkAt_2 : decode cX12_walkAt 2 = .ok (.sipush 166, 3) := by decide +kernel
theorem dX12_walkAt_5 : decode cX12_walkAt 5 = .ok (.iload_n 0, 1) := by decide +kernel
theorem dX12_walkAt_6 : decode cX12_walkAt 6 = .ok (.imul, 1) := by decide +kernel
theorem dX12_walkAt_7 : decode cX12_walkAt 7 = .ok (.iadd, 1) := by decide +kernel
theorem dX12_walkAt_8 : decode cX12_walkAt 8 = .ok (.ireturn, 1) := by decide +kernel
theorem dX12_walkPart_0 : decode cX12_walkPart 0 = .ok (.aload_n 0, 1) := by decide +kernel
theorem dX12_walkPart_1 : decode cX12_walkPart 1 = .ok (.getfield 7, 3) := by decide +kernel
theorem dX12_walkPart_4 : decode cX12_walkPart 4 = .ok (.iload_n 1, 1) := by decide +kernel
theorem dX12_walkPart_5 : decode cX12_walkPart 5 = .ok (.invokestatic 76, 3) := by decide +kernel
theorem dX12_walkPart_8 : decode cX12_walkPart 8 = .ok (.iload_n 2, 1) := by decide +kernel
theorem dX12_walkPart_9 : decode cX12_walkPart 9 = .ok (.iadd, 1) := by decide +kernel
theorem dX12_walkPart_10 : decode cX12_walkPart 10 = .ok (.iaload, 1) := by decide +kernel
theorem dX12_walkPart_11 : decode cX12_walkPart 11 = .ok (.ireturn, 1) := by decide +kernel
theorem dX12_puts_0 : decode cX12_puts 0 = .ok (.aload_n 0, 1) := by decide +kernel
theorem dX12_puts_1 : decode cX12_puts 1 = .ok (.getfield 7, 3) := by decide +kernel
theorem dX12_puts_4 : decode cX12_puts 4 = .ok (.iload_n 1, 1) := by decide +kernel
theorem dX12_puts_5 : decode cX12_puts 5 = .ok (.invokestatic 76, 3) := by decide +kernel
theorem dX12_puts_8 : decode cX12_puts 8 = .ok (.iload_n 2, 1) := by decide +kernel
theorem dX12_puts_9 : decode cX12_puts 9 = .ok (.iadd, 1) := by decide +kernel
theorem dX12_puts_10 : decode cX12_puts 10 = .ok (.iload_n 3, 1) := by decide +kernel
theorem dX12_puts_11 : decode cX12_puts 11 = .ok (.iastore, 1) := by decide +kernel
theorem dX12_puts_12 : decode cX12_puts 12 = .ok (.return_, 1) := by decide +kernel
theorem dX12_places_0 : decode cX12_places 0 = .ok (.aload_n 0, 1) := by decide +kernel
theorem dX12_places_1 : decode cX12_places 1 = .ok (.getfield 7, 3) := by decide +kernel
theorem dX12_places_4 : decode cX12_places 4 = .ok (.iload_n 1, 1) := by decide +kernel
theorem dX12_places_5 : decode cX12_places 5 = .ok (.invokestatic 76, 3) := by decide +kernel
theorem dX12_places_8 : decode cX12_places 8 = .ok (.iaload, 1) := by decide +kernel
theorem dX12_places_9 : decode cX12_places 9 = .ok (.ireturn, 1) := by decide +kernel
theorem dX12_placePart_0 : decode cX12_placePart 0 = .ok (.aload_n 0, 1) := by decide +kernel
theorem dX12_placePart_1 : decode cX12_placePart 1 = .ok (.getfield 7, 3) := by decide +kernel
theorem dX12_placePart_4 : decode cX12_placePart 4 = .ok (.iload_n 1, 1) := by decide +kernel
theorem dX12_placePart_5 : decode cX12_placePart 5 = .ok (.invokestatic 76, 3) := by decide +kernel
theorem dX12_placePart_8 : decode cX12_placePart 8 = .ok (.bipush 6, 2) := by decide +kernel
theorem dX12_placePart_10 : decode cX12_placePart 10 = .ok (.iadd, 1) := by decide +kernel
theorem dX12_placePart_11 : decode cX12_placePart 11 = .ok (.iconst 4, 1) := by decide +kernel
theorem dX12_placePart_12 : decode cX12_placePart 12 = .ok (.iload_n 2, 1) := by decide +kernel
theorem dX12_placePart_13 : decode cX12_placePart 13 = .ok (.imul, 1) := by decide +kernel
theorem dX12_placePart_14 : decode cX12_placePart 14 = .ok (.iadd, 1) := by decide +kernel
theorem dX12_placePart_15 : decode cX12_placePart 15 = .ok (.iload_n 3, 1) := by decide +kernel
theorem dX12_placePart_16 : decode cX12_placePart 16 = .ok (.iadd, 1) := by decide +kernel
theorem dX12_placePart_17 : decode cX12_placePart 17 = .ok (.iaload, 1) := by decide +kernel
theorem dX12_placePart_18 : decode cX12_placePart 18 = .ok (.ireturn, 1) := by decide +kernel
theorem dX12_isWalk_0 : decode cX12_isWalk 0 = .ok (.iload_n 1, 1) := by decide +kernel
theorem dX12_isWalk_1 : decode cX12_isWalk 1 = .ok (.iconst 0, 1) := by decide +kernel
theorem dX12_isWalk_2 : decode cX12_isWalk 2 = .ok (.aload_n 0, 1) := by decide +kernel
theorem dX12_isWalk_3 : decode cX12_isWalk 3 = .ok (.getfield 7, 3) := by decide +kernel
theorem dX12_isWalk_6 : decode cX12_isWalk 6 = .ok (.iconst 1, 1) := by decide +kernel
theorem dX12_isWalk_7 : decode cX12_isWalk 7 = .ok (.iaload, 1) := by decide +kernel
theorem dX12_isWalk_8 : decode cX12_isWalk 8 = .ok (.iconst 1, 1) := by decide +kernel
theorem dX12_isWalk_9 : decode cX12_isWalk 9 = .ok (.isub, 1) := by decide +kernel
theorem dX12_isWalk_10 : decode cX12_isWalk 10 = .ok (.invokestatic 25, 3) := by decide +kernel
theorem dX12_isWalk_13 : decode cX12_isWalk 13 = .ok (.ireturn, 1) := by decide +kernel
theorem dX12_joins_0 : decode cX12_joins 0 = .ok (.iload_n 1, 1) := by decide +kernel
theorem dX12_joins_1 : decode cX12_joins 1 = .ok (.invokestatic 76, 3) := by decide +kernel
theorem dX12_joins_4 : decode cX12_joins 4 = .ok (.bipush 6, 2) := by decide +kernel
theorem dX12_joins_6 : decode cX12_joins 6 = .ok (.iadd, 1) := by decide +kernel
theorem dX12_joins_7 : decode cX12_joins 7 = .ok (.iconst 4, 1) := by decide +kernel
theorem dX12_joins_8 : decode cX12_joins 8 = .ok (.aload_n 0, 1) := by decide +kernel
theorem dX12_joins_9 : decode cX12_joins 9 = .ok (.iload_n 1, 1) := by decide +kernel
theorem dX12_joins_10 : decode cX12_joins 10 = .ok (.invokevirtual 80, 3) := by decide +kernel
theorem dX12_joins_13 : decode cX12_joins 13 = .ok (.imul, 1) := by decide +kernel
theorem dX12_joins_14 : decode cX12_joins 14 = .ok (.iadd, 1) := by decide +kernel
theorem dX12_joins_15 : decode cX12_joins 15 = .ok (.istore_n 3, 1) := by decide +kernel
theorem dX12_joins_16 : decode cX12_joins 16 = .ok (.aload_n 0, 1) := by decide +kernel
theorem dX12_joins_17 : decode cX12_joins 17 = .ok (.getfield 7, 3) := by decide +kernel
theorem dX12_joins_20 : decode cX12_joins 20 = .ok (.iload_n 3, 1) := by decide +kernel
theorem dX12_joins_21 : decode cX12_joins 21 = .ok (.iconst 0, 1) := by decide +kernel
theorem dX12_joins_22 : decode cX12_joins 22 = .ok (.iadd, 1) := by decide +kernel
theorem dX12_joins_23 : decode cX12_joins 23 = .ok (.aload_n 0, 1) := by decide +kernel
theorem dX12_joins_24 : decode cX12_joins 24 = .ok (.getfield 55, 3) := by decide +kernel
theorem dX12_joins_27 : decode cX12_joins 27 = .ok (.iastore, 1) := by decide +kernel
theorem dX12_joins_28 : decode cX12_joins 28 = .ok (.aload_n 0, 1) := by decide +kernel
theorem dX12_joins_29 : decode cX12_joins 29 = .ok (.getfield 7, 3) := by decide +kernel
theorem dX12_joins_32 : decode cX12_joins 32 = .ok (.iload_n 3, 1) := by decide +kernel
theorem dX12_joins_33 : decode cX12_joins 33 = .ok (.iconst 1, 1) := by decide +kernel
theorem dX12_joins_34 : decode cX12_joins 34 = .ok (.iadd, 1) := by decide +kernel
theorem dX12_joins_35 : decode cX12_joins 35 = .ok (.aload_n 0, 1) := by decide +kernel
theorem dX12_joins_36 : decode cX12_joins 36 = .ok (.getfield 58, 3) := by decide +kernel
theorem dX12_joins_39 : decode cX12_joins 39 = .ok (.iastore, 1) := by decide +kernel
theorem dX12_joins_40 : decode cX12_joins 40 = .ok (.aload_n 0, 1) := by decide +kernel
theorem dX12_joins_41 : decode cX12_joins 41 = .ok (.getfield 7, 3) := by decide +kernel
theorem dX12_joins_44 : decode cX12_joins 44 = .ok (.iload_n 3, 1) := by decide +kernel
theorem dX12_joins_45 : decode cX12_joins 45 = .ok (.iconst 2, 1) := by decide +kernel
theorem dX12_joins_46 : decode cX12_joins 46 = .ok (.iadd, 1) := by decide +kernel
theorem dX12_joins_47 : decode cX12_joins 47 = .ok (.aload_n 0, 1) := by decide +kernel
theorem dX12_joins_48 : decode cX12_joins 48 = .ok (.getfield 65, 3) := by decide +kernel
theorem dX12_joins_51 : decode cX12_joins 51 = .ok (.iastore, 1) := by decide +kernel
theorem dX12_joins_52 : decode cX12_joins 52 = .ok (.aload_n 0, 1) := by decide +kernel
theorem dX12_joins_53 : decode cX12_joins 53 = .ok (.getfield 7, 3) := by decide +kernel
theorem dX12_joins_56 : decode cX12_joins 56 = .ok (.iload_n 3, 1) := by decide +kernel
theorem dX12_joins_57 : decode cX12_joins 57 = .ok (.iconst 3, 1) := by decide +kernel
theorem dX12_joins_58 : decode cX12_joins 58 = .ok (.iadd, 1) := by decide +kernel
theorem dX12_joins_59 : decode cX12_joins 59 = .ok (.iload_n 2, 1) := by decide +kernel
theorem dX12_joins_60 : decode cX12_joins 60 = .ok (.iastore, 1) := by decide +kernel
theorem dX12_joins_61 : decode cX12_joins 61 = .ok (.aload_n 0, 1) := by decide +kernel
theorem dX12_joins_62 : decode cX12_joins 62 = .ok (.getfield 7, 3) := by decide +kernel
theorem dX12_joins_65 : decode cX12_joins 65 = .ok (.iload_n 1, 1) := by decide +kernel
theorem dX12_joins_66 : decode cX12_joins 66 = .ok (.invokestatic 76, 3) := by decide +kernel
theorem dX12_joins_69 : decode cX12_joins 69 = .ok (.dup2, 1) := by decide +kernel
theorem dX12_joins_70 : decode cX12_joins 70 = .ok (.iaload, 1) := by decide +kernel
theorem dX12_joins_71 : decode cX12_joins 71 = .ok (.iconst 1, 1) := by decide +kernel
theorem dX12_joins_72 : decode cX12_joins 72 = .ok (.iadd, 1) := by decide +kernel
theorem dX12_joins_73 : decode cX12_joins 73 = .ok (.iastore, 1) := by decide +kernel
theorem dX12_joins_74 : decode cX12_joins 74 = .ok (.return_, 1) := by decide +kernel
theorem dX12_opens_0 : decode cX12_opens 0 = .ok (.aload_n 0, 1) := by decide +kernel
theorem dX12_opens_1 : decode cX12_opens 1 = .ok (.getfield 7, 3) := by decide +kernel
theorem dX12_opens_4 : decode cX12_opens 4 = .ok (.iconst 1, 1) := by decide +kernel
theorem dX12_opens_5 : decode cX12_opens 5 = .ok (.iaload, 1) := by decide +kernel
theorem dX12_opens_6 : decode cX12_opens 6 = .ok (.iconst 5, 1) := by decide +kernel
theorem dX12_opens_7 : decode cX12_opens 7 = .ok (.if_icmp .ne 6, 3) := by decide +kernel
theorem dX12_opens_10 : decode cX12_opens 10 = .ok (.ldc 83, 2) := by decide +kernel
theorem dX12_opens_12 : decode cX12_opens 12 = .ok (.ireturn, 1) := by decide +kernel
theorem dX12_opens_13 : decode cX12_opens 13 = .ok (.aload_n 0, 1) := by decide +kernel
theorem dX12_opens_14 : decode cX12_opens 14 = .ok (.getfield 7, 3) := by decide +kernel
theorem dX12_opens_17 : decode cX12_opens 17 = .ok (.iconst 1, 1) := by decide +kernel
theorem dX12_opens_18 : decode cX12_opens 18 = .ok (.iaload, 1) := by decide +kernel
theorem dX12_opens_19 : decode cX12_opens 19 = .ok (.istore 4, 2) := by decide +kernel
theorem dX12_opens_21 : decode cX12_opens 21 = .ok (.aload_n 0, 1) := by decide +kernel
theorem dX12_opens_22 : decode cX12_opens 22 = .ok (.getfield 7, 3) := by decide +kernel
theorem dX12_opens_25 : decode cX12_opens 25 = .ok (.iconst 1, 1) := by decide +kernel
theorem dX12_opens_26 : decode cX12_opens 26 = .ok (.dup2, 1) := by decide +kernel
theorem dX12_opens_27 : decode cX12_opens 27 = .ok (.iaload, 1) := by decide +kernel
theorem dX12_opens_28 : decode cX12_opens 28 = .ok (.iconst 1, 1) := by decide +kernel
theorem dX12_opens_29 : decode cX12_opens 29 = .ok (.iadd, 1) := by decide +kernel
theorem dX12_opens_30 : decode cX12_opens 30 = .ok (.iastore, 1) := by decide +kernel
theorem dX12_opens_31 : decode cX12_opens 31 = .ok (.aload_n 0, 1) := by decide +kernel
theorem dX12_opens_32 : decode cX12_opens 32 = .ok (.iload 4, 2) := by decide +kernel
theorem dX12_opens_34 : decode cX12_opens 34 = .ok (.iconst 0, 1) := by decide +kernel
theorem dX12_opens_35 : decode cX12_opens 35 = .ok (.iconst 0, 1) := by decide +kernel
theorem dX12_opens_36 : decode cX12_opens 36 = .ok (.invokevirtual 84, 3) := by decide +kernel
theorem dX12_opens_39 : decode cX12_opens 39 = .ok (.aload_n 0, 1) := by decide +kernel
theorem dX12_opens_40 : decode cX12_opens 40 = .ok (.iload 4, 2) := by decide +kernel
theorem dX12_opens_42 : decode cX12_opens 42 = .ok (.iconst 1, 1) := by decide +kernel
theorem dX12_opens_43 : decode cX12_opens 43 = .ok (.iload_n 1, 1) := by decide +kernel
theorem dX12_opens_44 : decode cX12_opens 44 = .ok (.invokevirtual 84, 3) := by decide +kernel
theorem dX12_opens_47 : decode cX12_opens 47 = .ok (.aload_n 0, 1) := by decide +kernel
theorem dX12_opens_48 : decode cX12_opens 48 = .ok (.iload 4, 2) := by decide +kernel
theorem dX12_opens_50 : decode cX12_opens 50 = .ok (.iconst 2, 1) := by decide +kernel
theorem dX12_opens_51 : decode cX12_opens 51 = .ok (.aload_n 0, 1) := by decide +kernel
theorem dX12_opens_52 : decode cX12_opens 52 = .ok (.getfield 7, 3) := by decide +kernel
theorem dX12_opens_55 : decode cX12_opens 55 = .ok (.iconst 2, 1) := by decide +kernel
theorem dX12_opens_56 : decode cX12_opens 56 = .ok (.iaload, 1) := by decide +kernel
theorem dX12_opens_57 : decode cX12_opens 57 = .ok (.invokevirtual 84, 3) := by decide +kernel
theorem dX12_opens_60 : decode cX12_opens 60 = .ok (.aload_n 0, 1) := by decide +kernel
theorem dX12_opens_61 : decode cX12_opens 61 = .ok (.iload 4, 2) := by decide +kernel
theorem dX12_opens_63 : decode cX12_opens 63 = .ok (.iconst 3, 1) := by decide +kernel
theorem dX12_opens_64 : decode cX12_opens 64 = .ok (.iconst 0, 1) := by decide +kernel
theorem dX12_opens_65 : decode cX12_opens 65 = .ok (.invokevirtual 84, 3) := by decide +kernel
theorem dX12_opens_68 : decode cX12_opens 68 = .ok (.aload_n 0, 1) := by decide +kernel
theorem dX12_opens_69 : decode cX12_opens 69 = .ok (.iload 4, 2) := by decide +kernel
theorem dX12_opens_71 : decode cX12_opens 71 = .ok (.iconst 4, 1) := by decide +kernel
theorem dX12_opens_72 : decode cX12_opens 72 = .ok (.iload_n 2, 1) := by decide +kernel
theorem dX12_opens_73 : decode cX12_opens 73 = .ok (.invokevirtual 84, 3) := by decide +kernel
theorem dX12_opens_76 : decode cX12_opens 76 = .ok (.aload_n 0, 1) := by decide +kernel
theorem dX12_opens_77 : decode cX12_opens 77 = .ok (.iload 4, 2) := by decide +kernel
theorem dX12_opens_79 : decode cX12_opens 79 = .ok (.iconst 5, 1) := by decide +kernel
theorem dX12_opens_80 : decode cX12_opens 80 = .ok (.iload_n 3, 1) := by decide +kernel
theorem dX12_opens_81 : decode cX12_opens 81 = .ok (.invokevirtual 84, 3) := by decide +kernel
theorem dX12_opens_84 : decode cX12_opens 84 = .ok (.aload_n 0, 1) := by decide +kernel
theorem dX12_opens_85 : decode cX12_opens 85 = .ok (.iload 4, 2) := by decide +kernel
theorem dX12_opens_87 : decode cX12_opens 87 = .ok (.iconst 0, 1) := by decide +kernel
theorem dX12_opens_88 : decode cX12_opens 88 = .ok (.invokevirtual 88, 3) := by decide +kernel
theorem dX12_opens_91 : decode cX12_opens 91 = .ok (.iload 4, 2) := by decide +kernel
theorem dX12_opens_93 : decode cX12_opens 93 = .ok (.ireturn, 1) := by decide +kernel
theorem dX12_tries_0 : decode cX12_tries 0 = .ok (.aload_n 0, 1) := by decide +kernel
theorem dX12_tries_1 : decode cX12_tries 1 = .ok (.iload_n 2, 1) := by decide +kernel
theorem dX12_tries_2 : decode cX12_tries 2 = .ok (.iload_n 3, 1) := by decide +kernel
theorem dX12_tries_3 : decode cX12_tries 3 = .ok (.iconst 1, 1) := by decide +kernel
theorem dX12_tries_4 : decode cX12_tries 4 = .ok (.invokevirtual 61, 3) := by decide +kernel
theorem dX12_tries_7 : decode cX12_tries 7 = .ok (.lstore 4, 2) := by decide +kernel
theorem dX12_tries_9 : decode cX12_tries 9 = .ok (.aload_n 0, 1) := by decide +kernel
theorem dX12_tries_10 : decode cX12_tries 10 = .ok (.iload_n 2, 1) := by decide +kernel
theorem dX12_tries_11 : decode cX12_tries 11 = .ok (.iload_n 3, 1) := by decide +kernel
theorem dX12_tries_12 : decode cX12_tries 12 = .ok (.iconst 2, 1) := by decide +kernel
theorem dX12_tries_13 : decode cX12_tries 13 = .ok (.invokevirtual 61, 3) := by decide +kernel
theorem dX12_tries_16 : decode cX12_tries 16 = .ok (.lstore 6, 2) := by decide +kernel
theorem dX12_tries_18 : decode cX12_tries 18 = .ok (.lload 4, 2) := by decide +kernel
theorem dX12_tries_20 : decode cX12_tries 20 = .ok (.lload 4, 2) := by decide +kernel
theorem dX12_tries_22 : decode cX12_tries 22 = .ok (.lmul, 1) := by decide +kernel
theorem dX12_tries_23 : decode cX12_tries 23 = .ok (.lload 6, 2) := by decide +kernel
theorem dX12_tries_25 : decode cX12_tries 25 = .ok (.lload 6, 2) := by decide +kernel
theorem dX12_tries_27 : decode cX12_tries 27 = .ok (.lmul, 1) := by decide +kernel
theorem dX12_tries_28 : decode cX12_tries 28 = .ok (.ladd, 1) := by decide +kernel
theorem dX12_tries_29 : decode cX12_tries 29 = .ok (.lstore 8, 2) := by decide +kernel
theorem dX12_tries_31 : decode cX12_tries 31 = .ok (.lload 8, 2) := by decide +kernel
theorem dX12_tries_33 : decode cX12_tries 33 = .ok (.lconst 0, 1) := by decide +kernel
theorem dX12_tries_34 : decode cX12_tries 34 = .ok (.lcmp, 1) := by decide +kernel
theorem dX12_tries_35 : decode cX12_tries 35 = .ok (.ifCond .ne 5, 3) := by decide +kernel
theorem dX12_tries_38 : decode cX12_tries 38 = .ok (.iconst 0, 1) := by decide +kernel
theorem dX12_tries_39 : decode cX12_tries 39 = .ok (.ireturn, 1) := by decide +kernel
theorem dX12_tries_40 : decode cX12_tries 40 = .ok (.aload_n 0, 1) := by decide +kernel
theorem dX12_tries_41 : decode cX12_tries 41 = .ok (.iload_n 1, 1) := by decide +kernel
theorem dX12_tries_42 : decode cX12_tries 42 = .ok (.iconst 2, 1) := by decide +kernel
theorem dX12_tries_43 : decode cX12_tries 43 = .ok (.invokevirtual 92, 3) := by decide +kernel
theorem dX12_tries_46 : decode cX12_tries 46 = .ok (.i2l, 1) := by decide +kernel
theorem dX12_tries_47 : decode cX12_tries 47 = .ok (.aload_n 0, 1) := by decide +kernel
theorem dX12_tries_48 : decode cX12_tries 48 = .ok (.iload_n 1, 1) := by decide +kernel
theorem dX12_tries_49 : decode cX12_tries 49 = .ok (.iconst 1, 1) := by decide +kernel
theorem dX12_tries_50 : decode cX12_tries 50 = .ok (.invokevirtual 92, 3) := by decide +kernel
theorem dX12_tries_53 : decode cX12_tries 53 = .ok (.i2l, 1) := by decide +kernel
theorem dX12_tries_54 : decode cX12_tries 54 = .ok (.lmul, 1) := by decide +kernel
theorem dX12_tries_55 : decode cX12_tries 55 = .ok (.lstore 10, 2) := by decide +kernel
theorem dX12_tries_57 : decode cX12_tries 57 = .ok (.lload 8, 2) := by decide +kernel
theorem dX12_tries_59 : decode cX12_tries 59 = .ok (.invokestatic 95, 3) := by decide +kernel
theorem dX12_tries_62 : decode cX12_tries 62 = .ok (.lstore 12, 2) := by decide +kernel
theorem dX12_tries_64 : decode cX12_tries 64 = .ok (.aload_n 0, 1) := by decide +kernel
theorem dX12_tries_65 : decode cX12_tries 65 = .ok (.iload_n 2, 1) := by decide +kernel
theorem dX12_tries_66 : decode cX12_tries 66 = .ok (.i2l, 1) := by decide +kernel
theorem dX12_tries_67 : decode cX12_tries 67 = .ok (.lload 10, 2) := by decide +kernel
theorem dX12_tries_69 : decode cX12_tries 69 = .ok (.lload 6, 2) := by decide +kernel
theorem dX12_tries_71 : decode cX12_tries 71 = .ok (.lmul, 1) := by decide +kernel
theorem dX12_tries_72 : decode cX12_tries 72 = .ok (.lload 12, 2) := by decide +kernel
theorem dX12_tries_74 : decode cX12_tries 74 = .ok (.ldiv, 1) := by decide +kernel
theorem dX12_tries_75 : decode cX12_tries 75 = .ok (.lsub, 1) := by decide +kernel
theorem dX12_tries_76 : decode cX12_tries 76 = .ok (.iload_n 3, 1) := by decide +kernel
theorem dX12_tries_77 : decode cX12_tries 77 = .ok (.i2l, 1) := by decide +kernel
theorem dX12_tries_78 : decode cX12_tries 78 = .ok (.lload 10, 2) := by decide +kernel
theorem dX12_tries_80 : decode cX12_tries 80 = .ok (.lload 4, 2) := by decide +kernel
theorem dX12_tries_82 : decode cX12_tries 82 = .ok (.lmul, 1) := by decide +kernel
theorem dX12_tries_83 : decode cX12_tries 83 = .ok (.lload 12, 2) := by decide +kernel
theorem dX12_tries_85 : decode cX12_tries 85 = .ok (.ldiv, 1) := by decide +kernel
theorem dX12_tries_86 : decode cX12_tries 86 = .ok (.ladd, 1) := by decide +kernel
theorem dX12_tries_87 : decode cX12_tries 87 = .ok (.invokevirtual 99, 3) := by decide +kernel
theorem dX12_tries_90 : decode cX12_tries 90 = .ok (.ifCond .eq 23, 3) := by decide +kernel
theorem dX12_tries_93 : decode cX12_tries 93 = .ok (.aload_n 0, 1) := by decide +kernel
theorem dX12_tries_94 : decode cX12_tries 94 = .ok (.getfield 55, 3) := by decide +kernel
theorem dX12_tries_97 : decode cX12_tries 97 = .ok (.iload_n 2, 1) := by decide +kernel
theorem dX12_tries_98 : decode cX12_tries 98 = .ok (.if_icmp .ne 11, 3) := by decide +kernel
theorem dX12_tries_101 : decode cX12_tries 101 = .ok (.aload_n 0, 1) := by decide +kernel
theorem dX12_tries_102 : decode cX12_tries 102 = .ok (.getfield 58, 3) := by decide +kernel
theorem dX12_tries_105 : decode cX12_tries 105 = .ok (.iload_n 3, 1) := by decide +kernel
theorem dX12_tries_106 : decode cX12_tries 106 = .ok (.if_icmp .eq 7, 3) := by decide +kernel
theorem dX12_tries_109 : decode cX12_tries 109 = .ok (.iconst 1, 1) := by decide +kernel
theorem dX12_tries_110 : decode cX12_tries 110 = .ok (.goto 4, 3) := by decide +kernel
theorem dX12_tries_113 : decode cX12_tries 113 = .ok (.iconst 0, 1) := by decide +kernel
theorem dX12_tries_114 : decode cX12_tries 114 = .ok (.ireturn, 1) := by decide +kernel
theorem dX12_arrives_0 : decode cX12_arrives 0 = .ok (.aload_n 0, 1) := by decide +kernel
theorem dX12_arrives_1 : decode cX12_arrives 1 = .ok (.aload_n 0, 1) := by decide +kernel
theorem dX12_arrives_2 : decode cX12_arrives 2 = .ok (.getfield 55, 3) := by decide +kernel
theorem dX12_arrives_5 : decode cX12_arrives 5 = .ok (.aload_n 0, 1) := by decide +kernel
theorem dX12_arrives_6 : decode cX12_arrives 6 = .ok (.getfield 58, 3) := by decide +kernel
theorem dX12_arrives_9 : decode cX12_arrives 9 = .ok (.iconst 1, 1) := by decide +kernel
theorem dX12_arrives_10 : decode cX12_arrives 10 = .ok (.invokevirtual 61, 3) := by decide +kernel
theorem dX12_arrives_13 : decode cX12_arrives 13 = .ok (.lstore 4, 2) := by decide +kernel
theorem dX12_arrives_15 : decode cX12_arrives 15 = .ok (.aload_n 0, 1) := by decide +kernel
theorem dX12_arrives_16 : decode cX12_arrives 16 = .ok (.aload_n 0, 1) := by decide +kernel
theorem dX12_arrives_17 : decode cX12_arrives 17 = .ok (.getfield 55, 3) := by decide +kernel
theorem dX12_arrives_20 : decode cX12_arrives 20 = .ok (.aload_n 0, 1) := by decide +kernel
theorem dX12_arrives_21 : decode cX12_arrives 21 = .ok (.getfield 58, 3) := by decide +kernel
theorem dX12_arrives_24 : decode cX12_arrives 24 = .ok (.iconst 2, 1) := by decide +kernel
theorem dX12_arrives_25 : decode cX12_arrives 25 = .ok (.invokevirtual 61, 3) := by decide +kernel
theorem dX12_arrives_28 : decode cX12_arrives 28 = .ok (.lstore 6, 2) := by decide +kernel
theorem dX12_arrives_30 : decode cX12_arrives 30 = .ok (.lload 4, 2) := by decide +kernel
theorem dX12_arrives_32 : decode cX12_arrives 32 = .ok (.aload_n 0, 1) := by decide +kernel
theorem dX12_arrives_33 : decode cX12_arrives 33 = .ok (.getfield 58, 3) := by decide +kernel
theorem dX12_arrives_36 : decode cX12_arrives 36 = .ok (.iload_n 3, 1) := by decide +kernel
theorem dX12_arrives_37 : decode cX12_arrives 37 = .ok (.isub, 1) := by decide +kernel
theorem dX12_arrives_38 : decode cX12_arrives 38 = .ok (.i2l, 1) := by decide +kernel
theorem dX12_arrives_39 : decode cX12_arrives 39 = .ok (.lmul, 1) := by decide +kernel
theorem dX12_arrives_40 : decode cX12_arrives 40 = .ok (.lload 6, 2) := by decide +kernel
theorem dX12_arrives_42 : decode cX12_arrives 42 = .ok (.aload_n 0, 1) := by decide +kernel
theorem dX12_arrives_43 : decode cX12_arrives 43 = .ok (.getfield 55, 3) := by decide +kernel
theorem dX12_arrives_46 : decode cX12_arrives 46 = .ok (.iload_n 2, 1) := by decide +kernel
theorem dX12_arrives_47 : decode cX12_arrives 47 = .ok (.isub, 1) := by decide +kernel
theorem dX12_arrives_48 : decode cX12_arrives 48 = .ok (.i2l, 1) := by decide +kernel
theorem dX12_arrives_49 : decode cX12_arrives 49 = .ok (.lmul, 1) := by decide +kernel
theorem dX12_arrives_50 : decode cX12_arrives 50 = .ok (.lsub, 1) := by decide +kernel
theorem dX12_arrives_51 : decode cX12_arrives 51 = .ok (.aload_n 0, 1) := by decide +kernel
theorem dX12_arrives_52 : decode cX12_arrives 52 = .ok (.iload_n 1, 1) := by decide +kernel
theorem dX12_arrives_53 : decode cX12_arrives 53 = .ok (.iconst 1, 1) := by decide +kernel
theorem dX12_arrives_54 : decode cX12_arrives 54 = .ok (.invokevirtual 92, 3) := by decide +kernel
theorem dX12_arrives_57 : decode cX12_arrives 57 = .ok (.i2l, 1) := by decide +kernel
theorem dX12_arrives_58 : decode cX12_arrives 58 = .ok (.lmul, 1) := by decide +kernel
theorem dX12_arrives_59 : decode cX12_arrives 59 = .ok (.lstore 8, 2) := by decide +kernel
theorem dX12_arrives_61 : decode cX12_arrives 61 = .ok (.aload_n 0, 1) := by decide +kernel
theorem dX12_arrives_62 : decode cX12_arrives 62 = .ok (.iload_n 2, 1) := by decide +kernel
theorem dX12_arrives_63 : decode cX12_arrives 63 = .ok (.iload_n 3, 1) := by decide +kernel
theorem dX12_arrives_64 : decode cX12_arrives 64 = .ok (.iconst 2, 1) := by decide +kernel
theorem dX12_arrives_65 : decode cX12_arrives 65 = .ok (.invokevirtual 61, 3) := by decide +kernel
theorem dX12_arrives_68 : decode cX12_arrives 68 = .ok (.lstore 10, 2) := by decide +kernel
theorem dX12_arrives_70 : decode cX12_arrives 70 = .ok (.lload 10, 2) := by decide +kernel
theorem dX12_arrives_72 : decode cX12_arrives 72 = .ok (.lconst 0, 1) := by decide +kernel
theorem dX12_arrives_73 : decode cX12_arrives 73 = .ok (.lcmp, 1) := by decide +kernel
theorem dX12_arrives_74 : decode cX12_arrives 74 = .ok (.ifCond .ge 10, 3) := by decide +kernel
theorem dX12_arrives_77 : decode cX12_arrives 77 = .ok (.lload 6, 2) := by decide +kernel
theorem dX12_arrives_79 : decode cX12_arrives 79 = .ok (.lconst 0, 1) := by decide +kernel
theorem dX12_arrives_80 : decode cX12_arrives 80 = .ok (.lcmp, 1) := by decide +kernel
theorem dX12_arrives_81 : decode cX12_arrives 81 = .ok (.ifCond .gt 17, 3) := by decide +kernel
theorem dX12_arrives_84 : decode cX12_arrives 84 = .ok (.lload 10, 2) := by decide +kernel
theorem dX12_arrives_86 : decode cX12_arrives 86 = .ok (.lconst 0, 1) := by decide +kernel
theorem dX12_arrives_87 : decode cX12_arrives 87 = .ok (.lcmp, 1) := by decide +kernel
theorem dX12_arrives_88 : decode cX12_arrives 88 = .ok (.ifCond .le 14, 3) := by decide +kernel
theorem dX12_arrives_91 : decode cX12_arrives 91 = .ok (.lload 6, 2) := by decide +kernel
theorem dX12_arrives_93 : decode cX12_arrives 93 = .ok (.lconst 0, 1) := by decide +kernel
theorem dX12_arrives_94 : decode cX12_arrives 94 = .ok (.lcmp, 1) := by decide +kernel
theorem dX12_arrives_95 : decode cX12_arrives 95 = .ok (.ifCond .ge 7, 3) := by decide +kernel
theorem dX12_arrives_98 : decode cX12_arrives 98 = .ok (.iconst 1, 1) := by decide +kernel
theorem dX12_arrives_99 : decode cX12_arrives 99 = .ok (.goto 4, 3) := by decide +kernel
theorem dX12_arrives_102 : decode cX12_arrives 102 = .ok (.iconst 0, 1) := by decide +kernel
theorem dX12_arrives_103 : decode cX12_arrives 103 = .ok (.istore 12, 2) := by decide +kernel
theorem dX12_arrives_105 : decode cX12_arrives 105 = .ok (.aload_n 0, 1) := by decide +kernel
theorem dX12_arrives_106 : decode cX12_arrives 106 = .ok (.iload_n 1, 1) := by decide +kernel
theorem dX12_arrives_107 : decode cX12_arrives 107 = .ok (.iconst 1, 1) := by decide +kernel
theorem dX12_arrives_108 : decode cX12_arrives 108 = .ok (.lload 8, 2) := by decide +kernel
theorem dX12_arrives_110 : decode cX12_arrives 110 = .ok (.lconst 0, 1) := by decide +kernel
theorem dX12_arrives_111 : decode cX12_arrives 111 = .ok (.lcmp, 1) := by decide +kernel
theorem dX12_arrives_112 : decode cX12_arrives 112 = .ok (.ifCond .ge 13, 3) := by decide +kernel
theorem dX12_arrives_115 : decode cX12_arrives 115 = .ok (.aload_n 0, 1) := by decide +kernel
theorem dX12_arrives_116 : decode cX12_arrives 116 = .ok (.iload_n 1, 1) := by decide +kernel
theorem dX12_arrives_117 : decode cX12_arrives 117 = .ok (.iconst 1, 1) := by decide +kernel
theorem dX12_arrives_118 : decode cX12_arrives 118 = .ok (.invokevirtual 92, 3) := by decide +kernel
theorem dX12_arrives_121 : decode cX12_arrives 121 = .ok (.ineg, 1) := by decide +kernel
theorem dX12_arrives_122 : decode cX12_arrives 122 = .ok (.goto 9, 3) := by decide +kernel
theorem dX12_arrives_125 : decode cX12_arrives 125 = .ok (.aload_n 0, 1) := by decide +kernel
theorem dX12_arrives_126 : decode cX12_arrives 126 = .ok (.iload_n 1, 1) := by decide +kernel
theorem dX12_arrives_127 : decode cX12_arrives 127 = .ok (.iconst 1, 1) := by decide +kernel
theorem dX12_arrives_128 : decode cX12_arrives 128 = .ok (.invokevirtual 92, 3) := by decide +kernel
theorem dX12_arrives_131 : decode cX12_arrives 131 = .ok (.invokevirtual 84, 3) := by decide +kernel
theorem dX12_arrives_134 : decode cX12_arrives 134 = .ok (.aload_n 0, 1) := by decide +kernel
theorem dX12_arrives_135 : decode cX12_arrives 135 = .ok (.iload_n 1, 1) := by decide +kernel
theorem dX12_arrives_136 : decode cX12_arrives 136 = .ok (.lload 8, 2) := by decide +kernel
theorem dX12_arrives_138 : decode cX12_arrives 138 = .ok (.lconst 0, 1) := by decide +kernel
theorem dX12_arrives_139 : decode cX12_arrives 139 = .ok (.lcmp, 1) := by decide +kernel
theorem dX12_arrives_140 : decode cX12_arrives 140 = .ok (.ifCond .ge 7, 3) := by decide +kernel
theorem dX12_arrives_143 : decode cX12_arrives 143 = .ok (.iconst 2, 1) := by decide +kernel
theorem dX12_arrives_144 : decode cX12_arrives 144 = .ok (.goto 13, 3) := by decide +kernel
theorem dX12_arrives_147 : decode cX12_arrives 147 = .ok (.iload 12, 2) := by decide +kernel
theorem dX12_arrives_149 : decode cX12_arrives 149 = .ok (.ifCond .eq 7, 3) := by decide +kernel
theorem dX12_arrives_152 : decode cX12_arrives 152 = .ok (.iconst 1, 1) := by decide +kernel
theorem dX12_arrives_153 : decode cX12_arrives 153 = .ok (.goto 4, 3) := by decide +kernel
theorem dX12_arrives_156 : decode cX12_arrives 156 = .ok (.iconst 0, 1) := by decide +kernel
theorem dX12_arrives_157 : decode cX12_arrives 157 = .ok (.invokevirtual 88, 3) := by decide +kernel
theorem dX12_arrives_160 : decode cX12_arrives 160 = .ok (.aload_n 0, 1) := by decide +kernel
theorem dX12_arrives_161 : decode cX12_arrives 161 = .ok (.iload_n 1, 1) := by decide +kernel
theorem dX12_arrives_162 : decode cX12_arrives 162 = .ok (.iconst 2, 1) := by decide +kernel
theorem dX12_arrives_163 : decode cX12_arrives 163 = .ok (.invokevirtual 92, 3) := by decide +kernel
theorem dX12_arrives_166 : decode cX12_arrives 166 = .ok (.istore 13, 2) := by decide +kernel
theorem dX12_arrives_168 : decode cX12_arrives 168 = .ok (.aload_n 0, 1) := by decide +kernel
theorem dX12_arrives_169 : decode cX12_arrives 169 = .ok (.getfield 65, 3) := by decide +kernel
theorem dX12_arrives_172 : decode cX12_arrives 172 = .ok (.iconst 2, 1) := by decide +kernel
theorem dX12_arrives_173 : decode cX12_arrives 173 = .ok (.if_icmp .gt 34, 3) := by decide +kernel
theorem dX12_arrives_176 : decode cX12_arrives 176 = .ok (.iconst 2, 1) := by decide +kernel
theorem dX12_arrives_177 : decode cX12_arrives 177 = .ok (.iload 13, 2) := by decide +kernel
theorem dX12_arrives_179 : decode cX12_arrives 179 = .ok (.imul, 1) := by decide +kernel
theorem dX12_arrives_180 : decode cX12_arrives 180 = .ok (.aload_n 0, 1) := by decide +kernel
theorem dX12_arrives_181 : decode cX12_arrives 181 = .ok (.getfield 7, 3) := by decide +kernel
theorem dX12_arrives_184 : decode cX12_arrives 184 = .ok (.iconst 3, 1) := by decide +kernel
theorem dX12_arrives_185 : decode cX12_arrives 185 = .ok (.iaload, 1) := by decide +kernel
theorem dX12_arrives_186 : decode cX12_arrives 186 = .ok (.if_icmp .le 12, 3) := by decide +kernel
theorem dX12_arrives_189 : decode cX12_arrives 189 = .ok (.aload_n 0, 1) := by decide +kernel
theorem dX12_arrives_190 : decode cX12_arrives 190 = .ok (.getfield 7, 3) := by decide +kernel
theorem dX12_arrives_193 : decode cX12_arrives 193 = .ok (.iconst 3, 1) := by decide +kernel
theorem dX12_arrives_194 : decode cX12_arrives 194 = .ok (.iaload, 1) := by decide +kernel
theorem dX12_arrives_195 : decode cX12_arrives 195 = .ok (.goto 7, 3) := by decide +kernel
theorem dX12_arrives_198 : decode cX12_arrives 198 = .ok (.iconst 2, 1) := by decide +kernel
theorem dX12_arrives_199 : decode cX12_arrives 199 = .ok (.iload 13, 2) := by decide +kernel
theorem dX12_arrives_201 : decode cX12_arrives 201 = .ok (.imul, 1) := by decide +kernel
theorem dX12_arrives_202 : decode cX12_arrives 202 = .ok (.istore 13, 2) := by decide +kernel
theorem dX12_arrives_204 : decode cX12_arrives 204 = .ok (.goto 29, 3) := by decide +kernel
theorem dX12_arrives_207 : decode cX12_arrives 207 = .ok (.aload_n 0, 1) := by decide +kernel
theorem dX12_arrives_208 : decode cX12_arrives 208 = .ok (.getfield 65, 3) := by decide +kernel
theorem dX12_arrives_211 : decode cX12_arrives 211 = .ok (.iconst 5, 1) := by decide +kernel
theorem dX12_arrives_212 : decode cX12_arrives 212 = .ok (.if_icmp .lt 21, 3) := by decide +kernel
theorem dX12_arrives_215 : decode cX12_arrives 215 = .ok (.iload 13, 2) := by decide +kernel
theorem dX12_arrives_217 : decode cX12_arrives 217 = .ok (.iconst 2, 1) := by decide +kernel
theorem dX12_arrives_218 : decode cX12_arrives 218 = .ok (.idiv, 1) := by decide +kernel
theorem dX12_arrives_219 : decode cX12_arrives 219 = .ok (.iconst 1, 1) := by decide +kernel
theorem dX12_arrives_220 : decode cX12_arrives 220 = .ok (.if_icmp .ge 7, 3) := by decide +kernel
theorem dX12_arrives_223 : decode cX12_arrives 223 = .ok (.iconst 1, 1) := by decide +kernel
theorem dX12_arrives_224 : decode cX12_arrives 224 = .ok (.goto 7, 3) := by decide +kernel
theorem dX12_arrives_227 : decode cX12_arrives 227 = .ok (.iload 13, 2) := by decide +kernel
theorem dX12_arrives_229 : decode cX12_arrives 229 = .ok (.iconst 2, 1) := by decide +kernel
theorem dX12_arrives_230 : decode cX12_arrives 230 = .ok (.idiv, 1) := by decide +kernel
theorem dX12_arrives_231 : decode cX12_arrives 231 = .ok (.istore 13, 2) := by decide +kernel
theorem dX12_arrives_233 : decode cX12_arrives 233 = .ok (.aload_n 0, 1) := by decide +kernel
theorem dX12_arrives_234 : decode cX12_arrives 234 = .ok (.iload_n 1, 1) := by decide +kernel
theorem dX12_arrives_235 : decode cX12_arrives 235 = .ok (.iconst 2, 1) := by decide +kernel
theorem dX12_arrives_236 : decode cX12_arrives 236 = .ok (.iload 13, 2) := by decide +kernel
theorem dX12_arrives_238 : decode cX12_arrives 238 = .ok (.invokevirtual 84, 3) := by decide +kernel
theorem dX12_arrives_241 : decode cX12_arrives 241 = .ok (.return_, 1) := by decide +kernel
theorem dX12_goes_0 : decode cX12_goes 0 = .ok (.aload_n 0, 1) := by decide +kernel
end
section
theorem dX12_goes_1 : decode cX12_goes 1 = .ok (.iload_n 1, 1) := by decide +kernel
theorem dX12_goes_2 : decode cX12_goes 2 = .ok (.invokevirtual 80, 3) := by decide +kernel
theorem dX12_goes_5 : decode cX12_goes 5 = .ok (.iconst 1, 1) := by decide +kernel
theorem dX12_goes_6 : decode cX12_goes 6 = .ok (.isub, 1) := by decide +kernel
theorem dX12_goes_7 : decode cX12_goes 7 = .ok (.istore_n 2, 1) := by decide +kernel
theorem dX12_goes_8 : decode cX12_goes 8 = .ok (.aload_n 0, 1) := by decide +kernel
theorem dX12_goes_9 : decode cX12_goes 9 = .ok (.iload_n 1, 1) := by decide +kernel
theorem dX12_goes_10 : decode cX12_goes 10 = .ok (.iload_n 2, 1) := by decide +kernel
theorem dX12_goes_11 : decode cX12_goes 11 = .ok (.iconst 0, 1) := by decide +kernel
theorem dX12_goes_12 : decode cX12_goes 12 = .ok (.invokevirtual 103, 3) := by decide +kernel
theorem dX12_goes_15 : decode cX12_goes 15 = .ok (.istore_n 3, 1) := by decide +kernel
theorem dX12_goes_16 : decode cX12_goes 16 = .ok (.aload_n 0, 1) := by decide +kernel
theorem dX12_goes_17 : decode cX12_goes 17 = .ok (.iload_n 1, 1) := by decide +kernel
theorem dX12_goes_18 : decode cX12_goes 18 = .ok (.iload_n 2, 1) := by decide +kernel
theorem dX12_goes_19 : decode cX12_goes 19 = .ok (.iconst 1, 1) := by decide +kernel
theorem dX12_goes_20 : decode cX12_goes 20 = .ok (.invokevirtual 103, 3) := by decide +kernel
theorem dX12_goes_23 : decode cX12_goes 23 = .ok (.istore 4, 2) := by decide +kernel
theorem dX12_goes_25 : decode cX12_goes 25 = .ok (.aload_n 0, 1) := by decide +kernel
theorem dX12_goes_26 : decode cX12_goes 26 = .ok (.iload_n 1, 1) := by decide +kernel
theorem dX12_goes_27 : decode cX12_goes 27 = .ok (.iconst 2, 1) := by decide +kernel
theorem dX12_goes_28 : decode cX12_goes 28 = .ok (.invokevirtual 92, 3) := by decide +kernel
theorem dX12_goes_31 : decode cX12_goes 31 = .ok (.ifCond .le 41, 3) := by decide +kernel
theorem dX12_goes_34 : decode cX12_goes 34 = .ok (.aload_n 0, 1) := by decide +kernel
theorem dX12_goes_35 : decode cX12_goes 35 = .ok (.iload_n 1, 1) := by decide +kernel
theorem dX12_goes_36 : decode cX12_goes 36 = .ok (.iload_n 3, 1) := by decide +kernel
theorem dX12_goes_37 : decode cX12_goes 37 = .ok (.iload 4, 2) := by decide +kernel
theorem dX12_goes_39 : decode cX12_goes 39 = .ok (.invokevirtual 107, 3) := by decide +kernel
theorem dX12_goes_42 : decode cX12_goes 42 = .ok (.ifCond .eq 13, 3) := by decide +kernel
theorem dX12_goes_45 : decode cX12_goes 45 = .ok (.aload_n 0, 1) := by decide +kernel
theorem dX12_goes_46 : decode cX12_goes 46 = .ok (.iload_n 1, 1) := by decide +kernel
theorem dX12_goes_47 : decode cX12_goes 47 = .ok (.iload_n 3, 1) := by decide +kernel
theorem dX12_goes_48 : decode cX12_goes 48 = .ok (.iload 4, 2) := by decide +kernel
theorem dX12_goes_50 : decode cX12_goes 50 = .ok (.invokevirtual 110, 3) := by decide +kernel
theorem dX12_goes_53 : decode cX12_goes 53 = .ok (.iconst 1, 1) := by decide +kernel
theorem dX12_goes_54 : decode cX12_goes 54 = .ok (.ireturn, 1) := by decide +kernel
theorem dX12_goes_55 : decode cX12_goes 55 = .ok (.aload_n 0, 1) := by decide +kernel
theorem dX12_goes_56 : decode cX12_goes 56 = .ok (.iload_n 1, 1) := by decide +kernel
theorem dX12_goes_57 : decode cX12_goes 57 = .ok (.iconst 2, 1) := by decide +kernel
theorem dX12_goes_58 : decode cX12_goes 58 = .ok (.aload_n 0, 1) := by decide +kernel
theorem dX12_goes_59 : decode cX12_goes 59 = .ok (.iload_n 1, 1) := by decide +kernel
theorem dX12_goes_60 : decode cX12_goes 60 = .ok (.iconst 2, 1) := by decide +kernel
theorem dX12_goes_61 : decode cX12_goes 61 = .ok (.invokevirtual 92, 3) := by decide +kernel
theorem dX12_goes_64 : decode cX12_goes 64 = .ok (.iconst 2, 1) := by decide +kernel
theorem dX12_goes_65 : decode cX12_goes 65 = .ok (.idiv, 1) := by decide +kernel
theorem dX12_goes_66 : decode cX12_goes 66 = .ok (.invokevirtual 84, 3) := by decide +kernel
theorem dX12_goes_69 : decode cX12_goes 69 = .ok (.goto (-44), 3) := by decide +kernel
theorem dX12_goes_72 : decode cX12_goes 72 = .ok (.aload_n 0, 1) := by decide +kernel
theorem dX12_goes_73 : decode cX12_goes 73 = .ok (.iload_n 1, 1) := by decide +kernel
theorem dX12_goes_74 : decode cX12_goes 74 = .ok (.iconst 3, 1) := by decide +kernel
theorem dX12_goes_75 : decode cX12_goes 75 = .ok (.iconst 1, 1) := by decide +kernel
theorem dX12_goes_76 : decode cX12_goes 76 = .ok (.invokevirtual 84, 3) := by decide +kernel
theorem dX12_goes_79 : decode cX12_goes 79 = .ok (.iconst 0, 1) := by decide +kernel
theorem dX12_goes_80 : decode cX12_goes 80 = .ok (.ireturn, 1) := by decide +kernel
theorem dX12_stateOf_0 : decode cX12_stateOf 0 = .ok (.aload_n 0, 1) := by decide +kernel
theorem dX12_stateOf_1 : decode cX12_stateOf 1 = .ok (.iload_n 1, 1) := by decide +kernel
theorem dX12_stateOf_2 : decode cX12_stateOf 2 = .ok (.iconst 3, 1) := by decide +kernel
theorem dX12_stateOf_3 : decode cX12_stateOf 3 = .ok (.invokevirtual 92, 3) := by decide +kernel
theorem dX12_stateOf_6 : decode cX12_stateOf 6 = .ok (.iconst 1, 1) := by decide +kernel
theorem dX12_stateOf_7 : decode cX12_stateOf 7 = .ok (.if_icmp .ne 7, 3) := by decide +kernel
theorem dX12_stateOf_10 : decode cX12_stateOf 10 = .ok (.iconst 1, 1) := by decide +kernel
theorem dX12_stateOf_11 : decode cX12_stateOf 11 = .ok (.goto 18, 3) := by decide +kernel
theorem dX12_stateOf_14 : decode cX12_stateOf 14 = .ok (.aload_n 0, 1) := by decide +kernel
theorem dX12_stateOf_15 : decode cX12_stateOf 15 = .ok (.iload_n 1, 1) := by decide +kernel
theorem dX12_stateOf_16 : decode cX12_stateOf 16 = .ok (.invokevirtual 80, 3) := by decide +kernel
theorem dX12_stateOf_19 : decode cX12_stateOf 19 = .ok (.bipush 40, 2) := by decide +kernel
theorem dX12_stateOf_21 : decode cX12_stateOf 21 = .ok (.if_icmp .ne 7, 3) := by decide +kernel
theorem dX12_stateOf_24 : decode cX12_stateOf 24 = .ok (.iconst 2, 1) := by decide +kernel
theorem dX12_stateOf_25 : decode cX12_stateOf 25 = .ok (.goto 4, 3) := by decide +kernel
theorem dX12_stateOf_28 : decode cX12_stateOf 28 = .ok (.iconst 0, 1) := by decide +kernel
theorem dX12_stateOf_29 : decode cX12_stateOf 29 = .ok (.ireturn, 1) := by decide +kernel
theorem dX12_walks_0 : decode cX12_walks 0 = .ok (.aload_n 0, 1) := by decide +kernel
theorem dX12_walks_1 : decode cX12_walks 1 = .ok (.iload_n 1, 1) := by decide +kernel
theorem dX12_walks_2 : decode cX12_walks 2 = .ok (.invokevirtual 113, 3) := by decide +kernel
theorem dX12_walks_5 : decode cX12_walks 5 = .ok (.ifCond .eq 6, 3) := by decide +kernel
theorem dX12_walks_8 : decode cX12_walks 8 = .ok (.ldc 116, 2) := by decide +kernel
theorem dX12_walks_10 : decode cX12_walks 10 = .ok (.ireturn, 1) := by decide +kernel
theorem dX12_walks_11 : decode cX12_walks 11 = .ok (.iconst 0, 1) := by decide +kernel
theorem dX12_walks_12 : decode cX12_walks 12 = .ok (.istore_n 3, 1) := by decide +kernel
theorem dX12_walks_13 : decode cX12_walks 13 = .ok (.iload_n 3, 1) := by decide +kernel
theorem dX12_walks_14 : decode cX12_walks 14 = .ok (.iload_n 2, 1) := by decide +kernel
theorem dX12_walks_15 : decode cX12_walks 15 = .ok (.if_icmp .ge 30, 3) := by decide +kernel
theorem dX12_walks_18 : decode cX12_walks 18 = .ok (.aload_n 0, 1) := by decide +kernel
theorem dX12_walks_19 : decode cX12_walks 19 = .ok (.iload_n 1, 1) := by decide +kernel
theorem dX12_walks_20 : decode cX12_walks 20 = .ok (.invokevirtual 113, 3) := by decide +kernel
theorem dX12_walks_23 : decode cX12_walks 23 = .ok (.ifCond .ne 22, 3) := by decide +kernel
theorem dX12_walks_26 : decode cX12_walks 26 = .ok (.iload_n 3, 1) := by decide +kernel
theorem dX12_walks_27 : decode cX12_walks 27 = .ok (.aload_n 0, 1) := by decide +kernel
theorem dX12_walks_28 : decode cX12_walks 28 = .ok (.iload_n 1, 1) := by decide +kernel
theorem dX12_walks_29 : decode cX12_walks 29 = .ok (.invokevirtual 117, 3) := by decide +kernel
theorem dX12_walks_32 : decode cX12_walks 32 = .ok (.ifCond .eq 7, 3) := by decide +kernel
theorem dX12_walks_35 : decode cX12_walks 35 = .ok (.iconst 1, 1) := by decide +kernel
theorem dX12_walks_36 : decode cX12_walks 36 = .ok (.goto 4, 3) := by decide +kernel
theorem dX12_walks_39 : decode cX12_walks 39 = .ok (.iconst 0, 1) := by decide +kernel
theorem dX12_walks_40 : decode cX12_walks 40 = .ok (.iadd, 1) := by decide +kernel
theorem dX12_walks_41 : decode cX12_walks 41 = .ok (.istore_n 3, 1) := by decide +kernel
theorem dX12_walks_42 : decode cX12_walks 42 = .ok (.goto (-29), 3) := by decide +kernel
theorem dX12_walks_45 : decode cX12_walks 45 = .ok (.iload_n 3, 1) := by decide +kernel
theorem dX12_walks_46 : decode cX12_walks 46 = .ok (.ireturn, 1) := by decide +kernel
theorem dX12_branches_0 : decode cX12_branches 0 = .ok (.aload_n 0, 1) := by decide +kernel
theorem dX12_branches_1 : decode cX12_branches 1 = .ok (.iload_n 1, 1) := by decide +kernel
theorem dX12_branches_2 : decode cX12_branches 2 = .ok (.iload_n 2, 1) := by decide +kernel
theorem dX12_branches_3 : decode cX12_branches 3 = .ok (.iconst 3, 1) := by decide +kernel
theorem dX12_branches_4 : decode cX12_branches 4 = .ok (.invokevirtual 103, 3) := by decide +kernel
theorem dX12_branches_7 : decode cX12_branches 7 = .ok (.iconst 2, 1) := by decide +kernel
theorem dX12_branches_8 : decode cX12_branches 8 = .ok (.if_icmp .eq 6, 3) := by decide +kernel
theorem dX12_branches_11 : decode cX12_branches 11 = .ok (.ldc 116, 2) := by decide +kernel
theorem dX12_branches_13 : decode cX12_branches 13 = .ok (.ireturn, 1) := by decide +kernel
theorem dX12_branches_14 : decode cX12_branches 14 = .ok (.aload_n 0, 1) := by decide +kernel
theorem dX12_branches_15 : decode cX12_branches 15 = .ok (.iload_n 1, 1) := by decide +kernel
theorem dX12_branches_16 : decode cX12_branches 16 = .ok (.iload_n 2, 1) := by decide +kernel
theorem dX12_branches_17 : decode cX12_branches 17 = .ok (.iconst 0, 1) := by decide +kernel
theorem dX12_branches_18 : decode cX12_branches 18 = .ok (.invokevirtual 103, 3) := by decide +kernel
theorem dX12_branches_21 : decode cX12_branches 21 = .ok (.istore 4, 2) := by decide +kernel
theorem dX12_branches_23 : decode cX12_branches 23 = .ok (.aload_n 0, 1) := by decide +kernel
theorem dX12_branches_24 : decode cX12_branches 24 = .ok (.iload_n 1, 1) := by decide +kernel
theorem dX12_branches_25 : decode cX12_branches 25 = .ok (.iload_n 2, 1) := by decide +kernel
theorem dX12_branches_26 : decode cX12_branches 26 = .ok (.iconst 1, 1) := by decide +kernel
theorem dX12_branches_27 : decode cX12_branches 27 = .ok (.invokevirtual 103, 3) := by decide +kernel
theorem dX12_branches_30 : decode cX12_branches 30 = .ok (.istore 5, 2) := by decide +kernel
theorem dX12_branches_32 : decode cX12_branches 32 = .ok (.iload 4, 2) := by decide +kernel
theorem dX12_branches_34 : decode cX12_branches 34 = .ok (.aload_n 0, 1) := by decide +kernel
theorem dX12_branches_35 : decode cX12_branches 35 = .ok (.iload_n 1, 1) := by decide +kernel
theorem dX12_branches_36 : decode cX12_branches 36 = .ok (.iload_n 2, 1) := by decide +kernel
theorem dX12_branches_37 : decode cX12_branches 37 = .ok (.iconst 1, 1) := by decide +kernel
theorem dX12_branches_38 : decode cX12_branches 38 = .ok (.isub, 1) := by decide +kernel
theorem dX12_branches_39 : decode cX12_branches 39 = .ok (.iconst 0, 1) := by decide +kernel
theorem dX12_branches_40 : decode cX12_branches 40 = .ok (.invokevirtual 103, 3) := by decide +kernel
theorem dX12_branches_43 : decode cX12_branches 43 = .ok (.isub, 1) := by decide +kernel
theorem dX12_branches_44 : decode cX12_branches 44 = .ok (.i2l, 1) := by decide +kernel
theorem dX12_branches_45 : decode cX12_branches 45 = .ok (.lstore 6, 2) := by decide +kernel
theorem dX12_branches_47 : decode cX12_branches 47 = .ok (.iload 5, 2) := by decide +kernel
theorem dX12_branches_49 : decode cX12_branches 49 = .ok (.aload_n 0, 1) := by decide +kernel
theorem dX12_branches_50 : decode cX12_branches 50 = .ok (.iload_n 1, 1) := by decide +kernel
theorem dX12_branches_51 : decode cX12_branches 51 = .ok (.iload_n 2, 1) := by decide +kernel
theorem dX12_branches_52 : decode cX12_branches 52 = .ok (.iconst 1, 1) := by decide +kernel
theorem dX12_branches_53 : decode cX12_branches 53 = .ok (.isub, 1) := by decide +kernel
theorem dX12_branches_54 : decode cX12_branches 54 = .ok (.iconst 1, 1) := by decide +kernel
theorem dX12_branches_55 : decode cX12_branches 55 = .ok (.invokevirtual 103, 3) := by decide +kernel
theorem dX12_branches_58 : decode cX12_branches 58 = .ok (.isub, 1) := by decide +kernel
theorem dX12_branches_59 : decode cX12_branches 59 = .ok (.i2l, 1) := by decide +kernel
theorem dX12_branches_60 : decode cX12_branches 60 = .ok (.lstore 8, 2) := by decide +kernel
theorem dX12_branches_62 : decode cX12_branches 62 = .ok (.aload_n 0, 1) := by decide +kernel
theorem dX12_branches_63 : decode cX12_branches 63 = .ok (.getfield 7, 3) := by decide +kernel
theorem dX12_branches_66 : decode cX12_branches 66 = .ok (.iconst 2, 1) := by decide +kernel
theorem dX12_branches_67 : decode cX12_branches 67 = .ok (.iaload, 1) := by decide +kernel
theorem dX12_branches_68 : decode cX12_branches 68 = .ok (.i2l, 1) := by decide +kernel
theorem dX12_branches_69 : decode cX12_branches 69 = .ok (.iload_n 3, 1) := by decide +kernel
theorem dX12_branches_70 : decode cX12_branches 70 = .ok (.i2l, 1) := by decide +kernel
theorem dX12_branches_71 : decode cX12_branches 71 = .ok (.lmul, 1) := by decide +kernel
theorem dX12_branches_72 : decode cX12_branches 72 = .ok (.lstore 10, 2) := by decide +kernel
theorem dX12_branches_74 : decode cX12_branches 74 = .ok (.lload 6, 2) := by decide +kernel
theorem dX12_branches_76 : decode cX12_branches 76 = .ok (.lload 6, 2) := by decide +kernel
theorem dX12_branches_78 : decode cX12_branches 78 = .ok (.lmul, 1) := by decide +kernel
theorem dX12_branches_79 : decode cX12_branches 79 = .ok (.lload 8, 2) := by decide +kernel
theorem dX12_branches_81 : decode cX12_branches 81 = .ok (.lload 8, 2) := by decide +kernel
theorem dX12_branches_83 : decode cX12_branches 83 = .ok (.lmul, 1) := by decide +kernel
theorem dX12_branches_84 : decode cX12_branches 84 = .ok (.ladd, 1) := by decide +kernel
theorem dX12_branches_85 : decode cX12_branches 85 = .ok (.invokestatic 95, 3) := by decide +kernel
theorem dX12_branches_88 : decode cX12_branches 88 = .ok (.lstore 12, 2) := by decide +kernel
theorem dX12_branches_90 : decode cX12_branches 90 = .ok (.aload_n 0, 1) := by decide +kernel
theorem dX12_branches_91 : decode cX12_branches 91 = .ok (.iload 4, 2) := by decide +kernel
theorem dX12_branches_93 : decode cX12_branches 93 = .ok (.i2l, 1) := by decide +kernel
theorem dX12_branches_94 : decode cX12_branches 94 = .ok (.lload 10, 2) := by decide +kernel
theorem dX12_branches_96 : decode cX12_branches 96 = .ok (.lload 8, 2) := by decide +kernel
theorem dX12_branches_98 : decode cX12_branches 98 = .ok (.lmul, 1) := by decide +kernel
theorem dX12_branches_99 : decode cX12_branches 99 = .ok (.lload 12, 2) := by decide +kernel
theorem dX12_branches_101 : decode cX12_branches 101 = .ok (.ldiv, 1) := by decide +kernel
theorem dX12_branches_102 : decode cX12_branches 102 = .ok (.lsub, 1) := by decide +kernel
theorem dX12_branches_103 : decode cX12_branches 103 = .ok (.iload 5, 2) := by decide +kernel
theorem dX12_branches_105 : decode cX12_branches 105 = .ok (.i2l, 1) := by decide +kernel
theorem dX12_branches_106 : decode cX12_branches 106 = .ok (.lload 10, 2) := by decide +kernel
theorem dX12_branches_108 : decode cX12_branches 108 = .ok (.lload 6, 2) := by decide +kernel
theorem dX12_branches_110 : decode cX12_branches 110 = .ok (.lmul, 1) := by decide +kernel
theorem dX12_branches_111 : decode cX12_branches 111 = .ok (.lload 12, 2) := by decide +kernel
theorem dX12_branches_113 : decode cX12_branches 113 = .ok (.ldiv, 1) := by decide +kernel
theorem dX12_branches_114 : decode cX12_branches 114 = .ok (.ladd, 1) := by decide +kernel
theorem dX12_branches_115 : decode cX12_branches 115 = .ok (.invokevirtual 99, 3) := by decide +kernel
theorem dX12_branches_118 : decode cX12_branches 118 = .ok (.ifCond .ne 6, 3) := by decide +kernel
theorem dX12_branches_121 : decode cX12_branches 121 = .ok (.ldc 116, 2) := by decide +kernel
theorem dX12_branches_123 : decode cX12_branches 123 = .ok (.ireturn, 1) := by decide +kernel
theorem dX12_branches_124 : decode cX12_branches 124 = .ok (.aload_n 0, 1) := by decide +kernel
theorem dX12_branches_125 : decode cX12_branches 125 = .ok (.aload_n 0, 1) := by decide +kernel
theorem dX12_branches_126 : decode cX12_branches 126 = .ok (.getfield 55, 3) := by decide +kernel
theorem dX12_branches_129 : decode cX12_branches 129 = .ok (.aload_n 0, 1) := by decide +kernel
theorem dX12_branches_130 : decode cX12_branches 130 = .ok (.getfield 58, 3) := by decide +kernel
theorem dX12_branches_133 : decode cX12_branches 133 = .ok (.iconst 1, 1) := by decide +kernel
theorem dX12_branches_134 : decode cX12_branches 134 = .ok (.invokevirtual 61, 3) := by decide +kernel
theorem dX12_branches_137 : decode cX12_branches 137 = .ok (.lload 6, 2) := by decide +kernel
theorem dX12_branches_139 : decode cX12_branches 139 = .ok (.lmul, 1) := by decide +kernel
theorem dX12_branches_140 : decode cX12_branches 140 = .ok (.aload_n 0, 1) := by decide +kernel
theorem dX12_branches_141 : decode cX12_branches 141 = .ok (.aload_n 0, 1) := by decide +kernel
theorem dX12_branches_142 : decode cX12_branches 142 = .ok (.getfield 55, 3) := by decide +kernel
theorem dX12_branches_145 : decode cX12_branches 145 = .ok (.aload_n 0, 1) := by decide +kernel
theorem dX12_branches_146 : decode cX12_branches 146 = .ok (.getfield 58, 3) := by decide +kernel
theorem dX12_branches_149 : decode cX12_branches 149 = .ok (.iconst 2, 1) := by decide +kernel
theorem dX12_branches_150 : decode cX12_branches 150 = .ok (.invokevirtual 61, 3) := by decide +kernel
theorem dX12_branches_153 : decode cX12_branches 153 = .ok (.lload 8, 2) := by decide +kernel
theorem dX12_branches_155 : decode cX12_branches 155 = .ok (.lmul, 1) := by decide +kernel
theorem dX12_branches_156 : decode cX12_branches 156 = .ok (.ladd, 1) := by decide +kernel
theorem dX12_branches_157 : decode cX12_branches 157 = .ok (.iload_n 3, 1) := by decide +kernel
theorem dX12_branches_158 : decode cX12_branches 158 = .ok (.i2l, 1) := by decide +kernel
theorem dX12_branches_159 : decode cX12_branches 159 = .ok (.lmul, 1) := by decide +kernel
theorem dX12_branches_160 : decode cX12_branches 160 = .ok (.lstore 14, 2) := by decide +kernel
theorem dX12_branches_162 : decode cX12_branches 162 = .ok (.aload_n 0, 1) := by decide +kernel
theorem dX12_branches_163 : decode cX12_branches 163 = .ok (.lload 14, 2) := by decide +kernel
theorem dX12_branches_165 : decode cX12_branches 165 = .ok (.lconst 0, 1) := by decide +kernel
theorem dX12_branches_166 : decode cX12_branches 166 = .ok (.lcmp, 1) := by decide +kernel
theorem dX12_branches_167 : decode cX12_branches 167 = .ok (.ifCond .lt 7, 3) := by decide +kernel
theorem dX12_branches_170 : decode cX12_branches 170 = .ok (.iconst 1, 1) := by decide +kernel
theorem dX12_branches_171 : decode cX12_branches 171 = .ok (.goto 4, 3) := by decide +kernel
theorem dX12_branches_174 : decode cX12_branches 174 = .ok (.iconst (-1), 1) := by decide +kernel
theorem dX12_branches_175 : decode cX12_branches 175 = .ok (.iload_n 1, 1) := by decide +kernel
theorem dX12_branches_176 : decode cX12_branches 176 = .ok (.iload_n 2, 1) := by decide +kernel
theorem dX12_branches_177 : decode cX12_branches 177 = .ok (.invokevirtual 121, 3) := by decide +kernel
theorem dX12_branches_180 : decode cX12_branches 180 = .ok (.ireturn, 1) := by decide +kernel
theorem dX12_isFrom_0 : decode cX12_isFrom 0 = .ok (.iload_n 1, 1) := by decide +kernel
theorem dX12_isFrom_1 : decode cX12_isFrom 1 = .ok (.istore_n 3, 1) := by decide +kernel
theorem dX12_isFrom_2 : decode cX12_isFrom 2 = .ok (.iload_n 3, 1) := by decide +kernel
theorem dX12_isFrom_3 : decode cX12_isFrom 3 = .ok (.ifCond .lt 18, 3) := by decide +kernel
theorem dX12_isFrom_6 : decode cX12_isFrom 6 = .ok (.iload_n 3, 1) := by decide +kernel
theorem dX12_isFrom_7 : decode cX12_isFrom 7 = .ok (.iload_n 2, 1) := by decide +kernel
theorem dX12_isFrom_8 : decode cX12_isFrom 8 = .ok (.if_icmp .eq 13, 3) := by decide +kernel
theorem dX12_isFrom_11 : decode cX12_isFrom 11 = .ok (.aload_n 0, 1) := by decide +kernel
theorem dX12_isFrom_12 : decode cX12_isFrom 12 = .ok (.iload_n 3, 1) := by decide +kernel
theorem dX12_isFrom_13 : decode cX12_isFrom 13 = .ok (.iconst 4, 1) := by decide +kernel
theorem dX12_isFrom_14 : decode cX12_isFrom 14 = .ok (.invokevirtual 92, 3) := by decide +kernel
theorem dX12_isFrom_17 : decode cX12_isFrom 17 = .ok (.istore_n 3, 1) := by decide +kernel
theorem dX12_isFrom_18 : decode cX12_isFrom 18 = .ok (.goto (-16), 3) := by decide +kernel
theorem dX12_isFrom_21 : decode cX12_isFrom 21 = .ok (.iload_n 3, 1) := by decide +kernel
theorem dX12_isFrom_22 : decode cX12_isFrom 22 = .ok (.iload_n 2, 1) := by decide +kernel
theorem dX12_isFrom_23 : decode cX12_isFrom 23 = .ok (.if_icmp .ne 7, 3) := by decide +kernel
theorem dX12_isFrom_26 : decode cX12_isFrom 26 = .ok (.iconst 1, 1) := by decide +kernel
theorem dX12_isFrom_27 : decode cX12_isFrom 27 = .ok (.goto 4, 3) := by decide +kernel
theorem dX12_isFrom_30 : decode cX12_isFrom 30 = .ok (.iconst 0, 1) := by decide +kernel
theorem dX12_isFrom_31 : decode cX12_isFrom 31 = .ok (.ireturn, 1) := by decide +kernel
theorem dX12_drops_0 : decode cX12_drops 0 = .ok (.iconst 0, 1) := by decide +kernel
theorem dX12_drops_1 : decode cX12_drops 1 = .ok (.istore_n 2, 1) := by decide +kernel
theorem dX12_drops_2 : decode cX12_drops 2 = .ok (.iconst 0, 1) := by decide +kernel
theorem dX12_drops_3 : decode cX12_drops 3 = .ok (.istore_n 3, 1) := by decide +kernel
theorem dX12_drops_4 : decode cX12_drops 4 = .ok (.iload_n 3, 1) := by decide +kernel
theorem dX12_drops_5 : decode cX12_drops 5 = .ok (.aload_n 0, 1) := by decide +kernel
theorem dX12_drops_6 : decode cX12_drops 6 = .ok (.getfield 7, 3) := by decide +kernel
theorem dX12_drops_9 : decode cX12_drops 9 = .ok (.iconst 1, 1) := by decide +kernel
theorem dX12_drops_10 : decode cX12_drops 10 = .ok (.iaload, 1) := by decide +kernel
theorem dX12_drops_11 : decode cX12_drops 11 = .ok (.if_icmp .ge 46, 3) := by decide +kernel
theorem dX12_drops_14 : decode cX12_drops 14 = .ok (.aload_n 0, 1) := by decide +kernel
theorem dX12_drops_15 : decode cX12_drops 15 = .ok (.getfield 22, 3) := by decide +kernel
theorem dX12_drops_18 : decode cX12_drops 18 = .ok (.iload_n 3, 1) := by decide +kernel
theorem dX12_drops_19 : decode cX12_drops 19 = .ok (.aload_n 0, 1) := by decide +kernel
theorem dX12_drops_20 : decode cX12_drops 20 = .ok (.iload_n 3, 1) := by decide +kernel
theorem dX12_drops_21 : decode cX12_drops 21 = .ok (.iload_n 1, 1) := by decide +kernel
theorem dX12_drops_22 : decode cX12_drops 22 = .ok (.invokevirtual 124, 3) := by decide +kernel
theorem dX12_drops_25 : decode cX12_drops 25 = .ok (.ifCond .eq 7, 3) := by decide +kernel
theorem dX12_drops_28 : decode cX12_drops 28 = .ok (.iconst (-1), 1) := by decide +kernel
theorem dX12_drops_29 : decode cX12_drops 29 = .ok (.goto 4, 3) := by decide +kernel
theorem dX12_drops_32 : decode cX12_drops 32 = .ok (.iload_n 2, 1) := by decide +kernel
theorem dX12_drops_33 : decode cX12_drops 33 = .ok (.iastore, 1) := by decide +kernel
theorem dX12_drops_34 : decode cX12_drops 34 = .ok (.iload_n 2, 1) := by decide +kernel
theorem dX12_drops_35 : decode cX12_drops 35 = .ok (.aload_n 0, 1) := by decide +kernel
theorem dX12_drops_36 : decode cX12_drops 36 = .ok (.getfield 22, 3) := by decide +kernel
theorem dX12_drops_39 : decode cX12_drops 39 = .ok (.iload_n 3, 1) := by decide +kernel
theorem dX12_drops_40 : decode cX12_drops 40 = .ok (.iaload, 1) := by decide +kernel
theorem dX12_drops_41 : decode cX12_drops 41 = .ok (.ifCond .ge 7, 3) := by decide +kernel
theorem dX12_drops_44 : decode cX12_drops 44 = .ok (.iconst 0, 1) := by decide +kernel
theorem dX12_drops_45 : decode cX12_drops 45 = .ok (.goto 4, 3) := by decide +kernel
theorem dX12_drops_48 : decode cX12_drops 48 = .ok (.iconst 1, 1) := by decide +kernel
theorem dX12_drops_49 : decode cX12_drops 49 = .ok (.iadd, 1) := by decide +kernel
theorem dX12_drops_50 : decode cX12_drops 50 = .ok (.istore_n 2, 1) := by decide +kernel
theorem dX12_drops_51 : decode cX12_drops 51 = .ok (.iinc 3 1, 3) := by decide +kernel
theorem dX12_drops_54 : decode cX12_drops 54 = .ok (.goto (-50), 3) := by decide +kernel
theorem dX12_drops_57 : decode cX12_drops 57 = .ok (.iconst 0, 1) := by decide +kernel
theorem dX12_drops_58 : decode cX12_drops 58 = .ok (.istore_n 3, 1) := by decide +kernel
theorem dX12_drops_59 : decode cX12_drops 59 = .ok (.iload_n 3, 1) := by decide +kernel
theorem dX12_drops_60 : decode cX12_drops 60 = .ok (.aload_n 0, 1) := by decide +kernel
theorem dX12_drops_61 : decode cX12_drops 61 = .ok (.getfield 7, 3) := by decide +kernel
theorem dX12_drops_64 : decode cX12_drops 64 = .ok (.iconst 1, 1) := by decide +kernel
theorem dX12_drops_65 : decode cX12_drops 65 = .ok (.iaload, 1) := by decide +kernel
theorem dX12_drops_66 : decode cX12_drops 66 = .ok (.if_icmp .ge 84, 3) := by decide +kernel
theorem dX12_drops_69 : decode cX12_drops 69 = .ok (.aload_n 0, 1) := by decide +kernel
theorem dX12_drops_70 : decode cX12_drops 70 = .ok (.iload_n 3, 1) := by decide +kernel
theorem dX12_drops_71 : decode cX12_drops 71 = .ok (.iconst 4, 1) := by decide +kernel
theorem dX12_drops_72 : decode cX12_drops 72 = .ok (.invokevirtual 92, 3) := by decide +kernel
theorem dX12_drops_75 : decode cX12_drops 75 = .ok (.istore 4, 2) := by decide +kernel
theorem dX12_drops_77 : decode cX12_drops 77 = .ok (.aload_n 0, 1) := by decide +kernel
theorem dX12_drops_78 : decode cX12_drops 78 = .ok (.iload_n 3, 1) := by decide +kernel
theorem dX12_drops_79 : decode cX12_drops 79 = .ok (.iconst 4, 1) := by decide +kernel
theorem dX12_drops_80 : decode cX12_drops 80 = .ok (.iload 4, 2) := by decide +kernel
theorem dX12_drops_82 : decode cX12_drops 82 = .ok (.ifCond .ge 7, 3) := by decide +kernel
theorem dX12_drops_85 : decode cX12_drops 85 = .ok (.iconst (-1), 1) := by decide +kernel
theorem dX12_drops_86 : decode cX12_drops 86 = .ok (.goto 10, 3) := by decide +kernel
theorem dX12_drops_89 : decode cX12_drops 89 = .ok (.aload_n 0, 1) := by decide +kernel
theorem dX12_drops_90 : decode cX12_drops 90 = .ok (.getfield 22, 3) := by decide +kernel
theorem dX12_drops_93 : decode cX12_drops 93 = .ok (.iload 4, 2) := by decide +kernel
theorem dX12_drops_95 : decode cX12_drops 95 = .ok (.iaload, 1) := by decide +kernel
theorem dX12_drops_96 : decode cX12_drops 96 = .ok (.invokevirtual 84, 3) := by decide +kernel
theorem dX12_drops_99 : decode cX12_drops 99 = .ok (.iconst 0, 1) := by decide +kernel
theorem dX12_drops_100 : decode cX12_drops 100 = .ok (.istore 5, 2) := by decide +kernel
theorem dX12_drops_102 : decode cX12_drops 102 = .ok (.iload 5, 2) := by decide +kernel
theorem dX12_drops_104 : decode cX12_drops 104 = .ok (.sipush 166, 3) := by decide +kernel
theorem dX12_drops_107 : decode cX12_drops 107 = .ok (.if_icmp .ge 37, 3) := by decide +kernel
theorem dX12_drops_110 : decode cX12_drops 110 = .ok (.aload_n 0, 1) := by decide +kernel
theorem dX12_drops_111 : decode cX12_drops 111 = .ok (.getfield 22, 3) := by decide +kernel
theorem dX12_drops_114 : decode cX12_drops 114 = .ok (.iload_n 3, 1) := by decide +kernel
theorem dX12_drops_115 : decode cX12_drops 115 = .ok (.iaload, 1) := by decide +kernel
theorem dX12_drops_116 : decode cX12_drops 116 = .ok (.ifCond .lt 28, 3) := by decide +kernel
theorem dX12_drops_119 : decode cX12_drops 119 = .ok (.aload_n 0, 1) := by decide +kernel
theorem dX12_drops_120 : decode cX12_drops 120 = .ok (.aload_n 0, 1) := by decide +kernel
theorem dX12_drops_121 : decode cX12_drops 121 = .ok (.getfield 22, 3) := by decide +kernel
theorem dX12_drops_124 : decode cX12_drops 124 = .ok (.iload_n 3, 1) := by decide +kernel
theorem dX12_drops_125 : decode cX12_drops 125 = .ok (.iaload, 1) := by decide +kernel
theorem dX12_drops_126 : decode cX12_drops 126 = .ok (.iload 5, 2) := by decide +kernel
theorem dX12_drops_128 : decode cX12_drops 128 = .ok (.aload_n 0, 1) := by decide +kernel
theorem dX12_drops_129 : decode cX12_drops 129 = .ok (.iload_n 3, 1) := by decide +kernel
theorem dX12_drops_130 : decode cX12_drops 130 = .ok (.iload 5, 2) := by decide +kernel
theorem dX12_drops_132 : decode cX12_drops 132 = .ok (.invokevirtual 92, 3) := by decide +kernel
theorem dX12_drops_135 : decode cX12_drops 135 = .ok (.invokevirtual 84, 3) := by decide +kernel
theorem dX12_drops_138 : decode cX12_drops 138 = .ok (.iinc 5 1, 3) := by decide +kernel
theorem dX12_drops_141 : decode cX12_drops 141 = .ok (.goto (-39), 3) := by decide +kernel
theorem dX12_drops_144 : decode cX12_drops 144 = .ok (.iinc 3 1, 3) := by decide +kernel
theorem dX12_drops_147 : decode cX12_drops 147 = .ok (.goto (-88), 3) := by decide +kernel
theorem dX12_drops_150 : decode cX12_drops 150 = .ok (.aload_n 0, 1) := by decide +kernel
theorem dX12_drops_151 : decode cX12_drops 151 = .ok (.getfield 7, 3) := by decide +kernel
theorem dX12_drops_154 : decode cX12_drops 154 = .ok (.iconst 1, 1) := by decide +kernel
theorem dX12_drops_155 : decode cX12_drops 155 = .ok (.iload_n 2, 1) := by decide +kernel
theorem dX12_drops_156 : decode cX12_drops 156 = .ok (.iastore, 1) := by decide +kernel
theorem dX12_drops_157 : decode cX12_drops 157 = .ok (.iload_n 2, 1) := by decide +kernel
theorem dX12_drops_158 : decode cX12_drops 158 = .ok (.ireturn, 1) := by decide +kernel
theorem dX12_adds_0 : decode cX12_adds 0 = .ok (.aload_n 0, 1) := by decide +kernel
theorem dX12_adds_1 : decode cX12_adds 1 = .ok (.getfield 7, 3) := by decide +kernel
theorem dX12_adds_4 : decode cX12_adds 4 = .ok (.iconst 0, 1) := by decide +kernel
theorem dX12_adds_5 : decode cX12_adds 5 = .ok (.iaload, 1) := by decide +kernel
theorem dX12_adds_6 : decode cX12_adds 6 = .ok (.bipush 6, 2) := by decide +kernel
theorem dX12_adds_8 : decode cX12_adds 8 = .ok (.if_icmp .ne 6, 3) := by decide +kernel
theorem dX12_adds_11 : decode cX12_adds 11 = .ok (.ldc 83, 2) := by decide +kernel
theorem dX12_adds_13 : decode cX12_adds 13 = .ok (.ireturn, 1) := by decide +kernel
theorem dX12_adds_14 : decode cX12_adds 14 = .ok (.iconst 5, 1) := by decide +kernel
theorem dX12_adds_15 : decode cX12_adds 15 = .ok (.iconst 3, 1) := by decide +kernel
theorem dX12_adds_16 : decode cX12_adds 16 = .ok (.aload_n 0, 1) := by decide +kernel
theorem dX12_adds_17 : decode cX12_adds 17 = .ok (.getfield 7, 3) := by decide +kernel
theorem dX12_adds_20 : decode cX12_adds 20 = .ok (.iconst 0, 1) := by decide +kernel
theorem dX12_adds_21 : decode cX12_adds 21 = .ok (.iaload, 1) := by decide +kernel
theorem dX12_adds_22 : decode cX12_adds 22 = .ok (.imul, 1) := by decide +kernel
theorem dX12_adds_23 : decode cX12_adds 23 = .ok (.iadd, 1) := by decide +kernel
theorem dX12_adds_24 : decode cX12_adds 24 = .ok (.istore 4, 2) := by decide +kernel
theorem dX12_adds_26 : decode cX12_adds 26 = .ok (.aload_n 0, 1) := by decide +kernel
theorem dX12_adds_27 : decode cX12_adds 27 = .ok (.getfield 7, 3) := by decide +kernel
theorem dX12_adds_30 : decode cX12_adds 30 = .ok (.iload 4, 2) := by decide +kernel
theorem dX12_adds_32 : decode cX12_adds 32 = .ok (.iload_n 1, 1) := by decide +kernel
theorem dX12_adds_33 : decode cX12_adds 33 = .ok (.iastore, 1) := by decide +kernel
theorem dX12_adds_34 : decode cX12_adds 34 = .ok (.aload_n 0, 1) := by decide +kernel
theorem dX12_adds_35 : decode cX12_adds 35 = .ok (.getfield 7, 3) := by decide +kernel
theorem dX12_adds_38 : decode cX12_adds 38 = .ok (.iload 4, 2) := by decide +kernel
theorem dX12_adds_40 : decode cX12_adds 40 = .ok (.iconst 1, 1) := by decide +kernel
theorem dX12_adds_41 : decode cX12_adds 41 = .ok (.iadd, 1) := by decide +kernel
theorem dX12_adds_42 : decode cX12_adds 42 = .ok (.iload_n 2, 1) := by decide +kernel
theorem dX12_adds_43 : decode cX12_adds 43 = .ok (.iastore, 1) := by decide +kernel
theorem dX12_adds_44 : decode cX12_adds 44 = .ok (.aload_n 0, 1) := by decide +kernel
theorem dX12_adds_45 : decode cX12_adds 45 = .ok (.getfield 7, 3) := by decide +kernel
theorem dX12_adds_48 : decode cX12_adds 48 = .ok (.iload 4, 2) := by decide +kernel
theorem dX12_adds_50 : decode cX12_adds 50 = .ok (.iconst 2, 1) := by decide +kernel
theorem dX12_adds_51 : decode cX12_adds 51 = .ok (.iadd, 1) := by decide +kernel
theorem dX12_adds_52 : decode cX12_adds 52 = .ok (.iload_n 3, 1) := by decide +kernel
theorem dX12_adds_53 : decode cX12_adds 53 = .ok (.iastore, 1) := by decide +kernel
theorem dX12_adds_54 : decode cX12_adds 54 = .ok (.aload_n 0, 1) := by decide +kernel
theorem dX12_adds_55 : decode cX12_adds 55 = .ok (.getfield 7, 3) := by decide +kernel
theorem dX12_adds_58 : decode cX12_adds 58 = .ok (.iconst 0, 1) := by decide +kernel
theorem dX12_adds_59 : decode cX12_adds 59 = .ok (.dup2, 1) := by decide +kernel
theorem dX12_adds_60 : decode cX12_adds 60 = .ok (.iaload, 1) := by decide +kernel
theorem dX12_adds_61 : decode cX12_adds 61 = .ok (.iconst 1, 1) := by decide +kernel
theorem dX12_adds_62 : decode cX12_adds 62 = .ok (.iadd, 1) := by decide +kernel
theorem dX12_adds_63 : decode cX12_adds 63 = .ok (.iastore, 1) := by decide +kernel
theorem dX12_adds_64 : decode cX12_adds 64 = .ok (.aload_n 0, 1) := by decide +kernel
theorem dX12_adds_65 : decode cX12_adds 65 = .ok (.getfield 7, 3) := by decide +kernel
theorem dX12_adds_68 : decode cX12_adds 68 = .ok (.iconst 1, 1) := by decide +kernel
theorem dX12_adds_69 : decode cX12_adds 69 = .ok (.iconst 0, 1) := by decide +kernel
theorem dX12_adds_70 : decode cX12_adds 70 = .ok (.iastore, 1) := by decide +kernel
theorem dX12_adds_71 : decode cX12_adds 71 = .ok (.aload_n 0, 1) := by decide +kernel
theorem dX12_adds_72 : decode cX12_adds 72 = .ok (.getfield 7, 3) := by decide +kernel
theorem dX12_adds_75 : decode cX12_adds 75 = .ok (.iconst 0, 1) := by decide +kernel
theorem dX12_adds_76 : decode cX12_adds 76 = .ok (.iaload, 1) := by decide +kernel
theorem dX12_adds_77 : decode cX12_adds 77 = .ok (.ireturn, 1) := by decide +kernel
theorem dX12_term_0 : decode cX12_term 0 = .ok (.aload_n 0, 1) := by decide +kernel
theorem dX12_term_1 : decode cX12_term 1 = .ok (.invokevirtual 128, 3) := by decide +kernel
theorem dX12_term_4 : decode cX12_term 4 = .ok (.iload_n 1, 1) := by decide +kernel
theorem dX12_term_5 : decode cX12_term 5 = .ok (.bipush (-5), 2) := by decide +kernel
theorem dX12_term_7 : decode cX12_term 7 = .ok (.iconst 5, 1) := by decide +kernel
theorem dX12_term_8 : decode cX12_term 8 = .ok (.invokestatic 25, 3) := by decide +kernel
theorem dX12_term_11 : decode cX12_term 11 = .ok (.ifCond .eq 36, 3) := by decide +kernel
theorem dX12_term_14 : decode cX12_term 14 = .ok (.iload_n 1, 1) := by decide +kernel
theorem dX12_term_15 : decode cX12_term 15 = .ok (.ifCond .eq 32, 3) := by decide +kernel
theorem dX12_term_18 : decode cX12_term 18 = .ok (.iload_n 2, 1) := by decide +kernel
theorem dX12_term_19 : decode cX12_term 19 = .ok (.iconst 0, 1) := by decide +kernel
theorem dX12_term_20 : decode cX12_term 20 = .ok (.iconst 3, 1) := by decide +kernel
theorem dX12_term_21 : decode cX12_term 21 = .ok (.invokestatic 25, 3) := by decide +kernel
theorem dX12_term_24 : decode cX12_term 24 = .ok (.ifCond .eq 23, 3) := by decide +kernel
theorem dX12_term_27 : decode cX12_term 27 = .ok (.iload_n 3, 1) := by decide +kernel
theorem dX12_term_28 : decode cX12_term 28 = .ok (.iconst 0, 1) := by decide +kernel
theorem dX12_term_29 : decode cX12_term 29 = .ok (.iconst 3, 1) := by decide +kernel
theorem dX12_term_30 : decode cX12_term 30 = .ok (.invokestatic 25, 3) := by decide +kernel
theorem dX12_term_33 : decode cX12_term 33 = .ok (.ifCond .eq 14, 3) := by decide +kernel
theorem dX12_term_36 : decode cX12_term 36 = .ok (.iload_n 2, 1) := by decide +kernel
theorem dX12_term_37 : decode cX12_term 37 = .ok (.iload_n 3, 1) := by decide +kernel
theorem dX12_term_38 : decode cX12_term 38 = .ok (.iadd, 1) := by decide +kernel
theorem dX12_term_39 : decode cX12_term 39 = .ok (.iconst 3, 1) := by decide +kernel
theorem dX12_term_40 : decode cX12_term 40 = .ok (.if_icmp .gt 7, 3) := by decide +kernel
theorem dX12_term_43 : decode cX12_term 43 = .ok (.iconst 1, 1) := by decide +kernel
theorem dX12_term_44 : decode cX12_term 44 = .ok (.goto 4, 3) := by decide +kernel
theorem dX12_term_47 : decode cX12_term 47 = .ok (.iconst 0, 1) := by decide +kernel
theorem dX12_term_48 : decode cX12_term 48 = .ok (.istore 4, 2) := by decide +kernel
theorem dX12_term_50 : decode cX12_term 50 = .ok (.aload_n 0, 1) := by decide +kernel
theorem dX12_term_51 : decode cX12_term 51 = .ok (.iload 4, 2) := by decide +kernel
theorem dX12_term_53 : decode cX12_term 53 = .ok (.ifCond .eq 13, 3) := by decide +kernel
theorem dX12_term_56 : decode cX12_term 56 = .ok (.aload_n 0, 1) := by decide +kernel
theorem dX12_term_57 : decode cX12_term 57 = .ok (.iload_n 1, 1) := by decide +kernel
theorem dX12_term_58 : decode cX12_term 58 = .ok (.iload_n 2, 1) := by decide +kernel
theorem dX12_term_59 : decode cX12_term 59 = .ok (.iload_n 3, 1) := by decide +kernel
theorem dX12_term_60 : decode cX12_term 60 = .ok (.invokevirtual 131, 3) := by decide +kernel
theorem dX12_term_63 : decode cX12_term 63 = .ok (.goto 5, 3) := by decide +kernel
theorem dX12_term_66 : decode cX12_term 66 = .ok (.ldc 29, 2) := by decide +kernel
theorem dX12_term_68 : decode cX12_term 68 = .ok (.invokevirtual 134, 3) := by decide +kernel
theorem dX12_term_71 : decode cX12_term 71 = .ok (.ireturn, 1) := by decide +kernel
theorem dX12_removes_0 : decode cX12_removes 0 = .ok (.iload_n 1, 1) := by decide +kernel
theorem dX12_removes_1 : decode cX12_removes 1 = .ok (.aload_n 0, 1) := by decide +kernel
theorem dX12_removes_2 : decode cX12_removes 2 = .ok (.getfield 7, 3) := by decide +kernel
theorem dX12_removes_5 : decode cX12_removes 5 = .ok (.iconst 0, 1) := by decide +kernel
theorem dX12_removes_6 : decode cX12_removes 6 = .ok (.iaload, 1) := by decide +kernel
theorem dX12_removes_7 : decode cX12_removes 7 = .ok (.if_icmp .lt 6, 3) := by decide +kernel
theorem dX12_removes_10 : decode cX12_removes 10 = .ok (.ldc 116, 2) := by decide +kernel
theorem dX12_removes_12 : decode cX12_removes 12 = .ok (.ireturn, 1) := by decide +kernel
theorem dX12_removes_13 : decode cX12_removes 13 = .ok (.aload_n 0, 1) := by decide +kernel
theorem dX12_removes_14 : decode cX12_removes 14 = .ok (.iload_n 1, 1) := by decide +kernel
theorem dX12_removes_15 : decode cX12_removes 15 = .ok (.iconst 0, 1) := by decide +kernel
theorem dX12_removes_16 : decode cX12_removes 16 = .ok (.invokevirtual 37, 3) := by decide +kernel
theorem dX12_removes_19 : decode cX12_removes 19 = .ok (.istore_n 2, 1) := by decide +kernel
theorem dX12_removes_20 : decode cX12_removes 20 = .ok (.aload_n 0, 1) := by decide +kernel
theorem dX12_removes_21 : decode cX12_removes 21 = .ok (.getfield 7, 3) := by decide +kernel
theorem dX12_removes_24 : decode cX12_removes 24 = .ok (.iconst 0, 1) := by decide +kernel
theorem dX12_removes_25 : decode cX12_removes 25 = .ok (.dup2, 1) := by decide +kernel
theorem dX12_removes_26 : decode cX12_removes 26 = .ok (.iaload, 1) := by decide +kernel
theorem dX12_removes_27 : decode cX12_removes 27 = .ok (.iconst 1, 1) := by decide +kernel
theorem dX12_removes_28 : decode cX12_removes 28 = .ok (.isub, 1) := by decide +kernel
theorem dX12_removes_29 : decode cX12_removes 29 = .ok (.iastore, 1) := by decide +kernel
theorem dX12_removes_30 : decode cX12_removes 30 = .ok (.iconst 5, 1) := by decide +kernel
theorem dX12_removes_31 : decode cX12_removes 31 = .ok (.iconst 3, 1) := by decide +kernel
theorem dX12_removes_32 : decode cX12_removes 32 = .ok (.iload_n 1, 1) := by decide +kernel
theorem dX12_removes_33 : decode cX12_removes 33 = .ok (.imul, 1) := by decide +kernel
theorem dX12_removes_34 : decode cX12_removes 34 = .ok (.iadd, 1) := by decide +kernel
theorem dX12_removes_35 : decode cX12_removes 35 = .ok (.istore_n 3, 1) := by decide +kernel
theorem dX12_removes_36 : decode cX12_removes 36 = .ok (.iload_n 3, 1) := by decide +kernel
theorem dX12_removes_37 : decode cX12_removes 37 = .ok (.iconst 5, 1) := by decide +kernel
theorem dX12_removes_38 : decode cX12_removes 38 = .ok (.iconst 3, 1) := by decide +kernel
theorem dX12_removes_39 : decode cX12_removes 39 = .ok (.aload_n 0, 1) := by decide +kernel
theorem dX12_removes_40 : decode cX12_removes 40 = .ok (.getfield 7, 3) := by decide +kernel
theorem dX12_removes_43 : decode cX12_removes 43 = .ok (.iconst 0, 1) := by decide +kernel
theorem dX12_removes_44 : decode cX12_removes 44 = .ok (.iaload, 1) := by decide +kernel
theorem dX12_removes_45 : decode cX12_removes 45 = .ok (.imul, 1) := by decide +kernel
theorem dX12_removes_46 : decode cX12_removes 46 = .ok (.iadd, 1) := by decide +kernel
theorem dX12_removes_47 : decode cX12_removes 47 = .ok (.if_icmp .ge 23, 3) := by decide +kernel
theorem dX12_removes_50 : decode cX12_removes 50 = .ok (.aload_n 0, 1) := by decide +kernel
theorem dX12_removes_51 : decode cX12_removes 51 = .ok (.getfield 7, 3) := by decide +kernel
theorem dX12_removes_54 : decode cX12_removes 54 = .ok (.iload_n 3, 1) := by decide +kernel
theorem dX12_removes_55 : decode cX12_removes 55 = .ok (.aload_n 0, 1) := by decide +kernel
theorem dX12_removes_56 : decode cX12_removes 56 = .ok (.getfield 7, 3) := by decide +kernel
theorem dX12_removes_59 : decode cX12_removes 59 = .ok (.iload_n 3, 1) := by decide +kernel
theorem dX12_removes_60 : decode cX12_removes 60 = .ok (.iconst 3, 1) := by decide +kernel
theorem dX12_removes_61 : decode cX12_removes 61 = .ok (.iadd, 1) := by decide +kernel
theorem dX12_removes_62 : decode cX12_removes 62 = .ok (.iaload, 1) := by decide +kernel
theorem dX12_removes_63 : decode cX12_removes 63 = .ok (.iastore, 1) := by decide +kernel
theorem dX12_removes_64 : decode cX12_removes 64 = .ok (.iinc 3 1, 3) := by decide +kernel
theorem dX12_removes_67 : decode cX12_removes 67 = .ok (.goto (-31), 3) := by decide +kernel
theorem dX12_removes_70 : decode cX12_removes 70 = .ok (.aload_n 0, 1) := by decide +kernel
theorem dX12_removes_71 : decode cX12_removes 71 = .ok (.getfield 7, 3) := by decide +kernel
theorem dX12_removes_74 : decode cX12_removes 74 = .ok (.iconst 1, 1) := by decide +kernel
theorem dX12_removes_75 : decode cX12_removes 75 = .ok (.iconst 0, 1) := by decide +kernel
theorem dX12_removes_76 : decode cX12_removes 76 = .ok (.iastore, 1) := by decide +kernel
theorem dX12_removes_77 : decode cX12_removes 77 = .ok (.iload_n 2, 1) := by decide +kernel
theorem dX12_removes_78 : decode cX12_removes 78 = .ok (.ireturn, 1) := by decide +kernel
theorem dX12_dropTerm_0 : decode cX12_dropTerm 0 = .ok (.aload_n 0, 1) := by decide +kernel
theorem dX12_dropTerm_1 : decode cX12_dropTerm 1 = .ok (.invokevirtual 128, 3) := by decide +kernel
theorem dX12_dropTerm_4 : decode cX12_dropTerm 4 = .ok (.aload_n 0, 1) := by decide +kernel
theorem dX12_dropTerm_5 : decode cX12_dropTerm 5 = .ok (.iload_n 1, 1) := by decide +kernel
theorem dX12_dropTerm_6 : decode cX12_dropTerm 6 = .ok (.ifCond .ge 8, 3) := by decide +kernel
theorem dX12_dropTerm_9 : decode cX12_dropTerm 9 = .ok (.ldc 29, 2) := by decide +kernel
theorem dX12_dropTerm_11 : decode cX12_dropTerm 11 = .ok (.goto 8, 3) := by decide +kernel
theorem dX12_dropTerm_14 : decode cX12_dropTerm 14 = .ok (.aload_n 0, 1) := by decide +kernel
theorem dX12_dropTerm_15 : decode cX12_dropTerm 15 = .ok (.iload_n 1, 1) := by decide +kernel
theorem dX12_dropTerm_16 : decode cX12_dropTerm 16 = .ok (.invokevirtual 137, 3) := by decide +kernel
theorem dX12_dropTerm_19 : decode cX12_dropTerm 19 = .ok (.invokevirtual 134, 3) := by decide +kernel
theorem dX12_dropTerm_22 : decode cX12_dropTerm 22 = .ok (.ireturn, 1) := by decide +kernel
theorem dX12_isSide_0 : decode cX12_isSide 0 = .ok (.iload_n 0, 1) := by decide +kernel
theorem dX12_isSide_1 : decode cX12_isSide 1 = .ok (.iconst 1, 1) := by decide +kernel
theorem dX12_isSide_2 : decode cX12_isSide 2 = .ok (.if_icmp .eq 8, 3) := by decide +kernel
theorem dX12_isSide_5 : decode cX12_isSide 5 = .ok (.iload_n 0, 1) := by decide +kernel
theorem dX12_isSide_6 : decode cX12_isSide 6 = .ok (.iconst (-1), 1) := by decide +kernel
theorem dX12_isSide_7 : decode cX12_isSide 7 = .ok (.if_icmp .ne 7, 3) := by decide +kernel
theorem dX12_isSide_10 : decode cX12_isSide 10 = .ok (.iconst 1, 1) := by decide +kernel
theorem dX12_isSide_11 : decode cX12_isSide 11 = .ok (.goto 4, 3) := by decide +kernel
theorem dX12_isSide_14 : decode cX12_isSide 14 = .ok (.iconst 0, 1) := by decide +kernel
theorem dX12_isSide_15 : decode cX12_isSide 15 = .ok (.ireturn, 1) := by decide +kernel
theorem dX12_begin_0 : decode cX12_begin 0 = .ok (.aload_n 0, 1) := by decide +kernel
theorem dX12_begin_1 : decode cX12_begin 1 = .ok (.invokevirtual 128, 3) := by decide +kernel
theorem dX12_begin_4 : decode cX12_begin 4 = .ok (.iload_n 1, 1) := by decide +kernel
theorem dX12_begin_5 : decode cX12_begin 5 = .ok (.invokestatic 140, 3) := by decide +kernel
theorem dX12_begin_8 : decode cX12_begin 8 = .ok (.ifCond .eq 17, 3) := by decide +kernel
theorem dX12_begin_11 : decode cX12_begin 11 = .ok (.iload_n 2, 1) := by decide +kernel
theorem dX12_begin_12 : decode cX12_begin 12 = .ok (.invokestatic 140, 3) := by decide +kernel
theorem dX12_begin_15 : decode cX12_begin 15 = .ok (.ifCond .eq 10, 3) := by decide +kernel
theorem dX12_begin_18 : decode cX12_begin 18 = .ok (.iload_n 3, 1) := by decide +kernel
theorem dX12_begin_19 : decode cX12_begin 19 = .ok (.invokestatic 143, 3) := by decide +kernel
theorem dX12_begin_22 : decode cX12_begin 22 = .ok (.ifCond .ne 6, 3) := by decide +kernel
theorem dX12_begin_25 : decode cX12_begin 25 = .ok (.ldc 29, 2) := by decide +kernel
theorem dX12_begin_27 : decode cX12_begin 27 = .ok (.ireturn, 1) := by decide +kernel
theorem dX12_begin_28 : decode cX12_begin 28 = .ok (.aload_n 0, 1) := by decide +kernel
theorem dX12_begin_29 : decode cX12_begin 29 = .ok (.aload_n 0, 1) := by decide +kernel
theorem dX12_begin_30 : decode cX12_begin 30 = .ok (.iload_n 1, 1) := by decide +kernel
theorem dX12_begin_31 : decode cX12_begin 31 = .ok (.i2l, 1) := by decide +kernel
theorem dX12_begin_32 : decode cX12_begin 32 = .ok (.iload_n 2, 1) := by decide +kernel
theorem dX12_begin_33 : decode cX12_begin 33 = .ok (.i2l, 1) := by decide +kernel
theorem dX12_begin_34 : decode cX12_begin 34 = .ok (.invokevirtual 99, 3) := by decide +kernel
theorem dX12_begin_37 : decode cX12_begin 37 = .ok (.ifCond .eq 13, 3) := by decide +kernel
theorem dX12_begin_40 : decode cX12_begin 40 = .ok (.aload_n 0, 1) := by decide +kernel
theorem dX12_begin_41 : decode cX12_begin 41 = .ok (.iload_n 3, 1) := by decide +kernel
theorem dX12_begin_42 : decode cX12_begin 42 = .ok (.iconst (-1), 1) := by decide +kernel
theorem dX12_begin_43 : decode cX12_begin 43 = .ok (.iconst (-1), 1) := by decide +kernel
theorem dX12_begin_44 : decode cX12_begin 44 = .ok (.invokevirtual 121, 3) := by decide +kernel
theorem dX12_begin_47 : decode cX12_begin 47 = .ok (.goto 5, 3) := by decide +kernel
theorem dX12_begin_50 : decode cX12_begin 50 = .ok (.ldc 116, 2) := by decide +kernel
theorem dX12_begin_52 : decode cX12_begin 52 = .ok (.invokevirtual 134, 3) := by decide +kernel
theorem dX12_begin_55 : decode cX12_begin 55 = .ok (.ireturn, 1) := by decide +kernel
theorem dX12_branch_0 : decode cX12_branch 0 = .ok (.aload_n 0, 1) := by decide +kernel
theorem dX12_branch_1 : decode cX12_branch 1 = .ok (.invokevirtual 128, 3) := by decide +kernel
theorem dX12_branch_4 : decode cX12_branch 4 = .ok (.aload_n 0, 1) := by decide +kernel
theorem dX12_branch_5 : decode cX12_branch 5 = .ok (.iload_n 1, 1) := by decide +kernel
theorem dX12_branch_6 : decode cX12_branch 6 = .ok (.invokevirtual 146, 3) := by decide +kernel
theorem dX12_branch_9 : decode cX12_branch 9 = .ok (.ifCond .eq 25, 3) := by decide +kernel
theorem dX12_branch_12 : decode cX12_branch 12 = .ok (.iload_n 2, 1) := by decide +kernel
theorem dX12_branch_13 : decode cX12_branch 13 = .ok (.iconst 0, 1) := by decide +kernel
theorem dX12_branch_14 : decode cX12_branch 14 = .ok (.aload_n 0, 1) := by decide +kernel
theorem dX12_branch_15 : decode cX12_branch 15 = .ok (.iload_n 1, 1) := by decide +kernel
theorem dX12_branch_16 : decode cX12_branch 16 = .ok (.invokevirtual 80, 3) := by decide +kernel
theorem dX12_branch_19 : decode cX12_branch 19 = .ok (.iconst 1, 1) := by decide +kernel
theorem dX12_branch_20 : decode cX12_branch 20 = .ok (.isub, 1) := by decide +kernel
theorem dX12_branch_21 : decode cX12_branch 21 = .ok (.invokestatic 25, 3) := by decide +kernel
theorem dX12_branch_24 : decode cX12_branch 24 = .ok (.ifCond .eq 10, 3) := by decide +kernel
theorem dX12_branch_27 : decode cX12_branch 27 = .ok (.iload_n 3, 1) := by decide +kernel
theorem dX12_branch_28 : decode cX12_branch 28 = .ok (.invokestatic 143, 3) := by decide +kernel
theorem dX12_branch_31 : decode cX12_branch 31 = .ok (.ifCond .ne 6, 3) := by decide +kernel
theorem dX12_branch_34 : decode cX12_branch 34 = .ok (.ldc 29, 2) := by decide +kernel
theorem dX12_branch_36 : decode cX12_branch 36 = .ok (.ireturn, 1) := by decide +kernel
theorem dX12_branch_37 : decode cX12_branch 37 = .ok (.aload_n 0, 1) := by decide +kernel
theorem dX12_branch_38 : decode cX12_branch 38 = .ok (.aload_n 0, 1) := by decide +kernel
theorem dX12_branch_39 : decode cX12_branch 39 = .ok (.iload_n 1, 1) := by decide +kernel
theorem dX12_branch_40 : decode cX12_branch 40 = .ok (.iload_n 2, 1) := by decide +kernel
theorem dX12_branch_41 : decode cX12_branch 41 = .ok (.iload_n 3, 1) := by decide +kernel
theorem dX12_branch_42 : decode cX12_branch 42 = .ok (.invokevirtual 149, 3) := by decide +kernel
theorem dX12_branch_45 : decode cX12_branch 45 = .ok (.invokevirtual 134, 3) := by decide +kernel
theorem dX12_branch_48 : decode cX12_branch 48 = .ok (.ireturn, 1) := by decide +kernel
theorem dX12_step_0 : decode cX12_step 0 = .ok (.aload_n 0, 1) := by decide +kernel
theorem dX12_step_1 : decode cX12_step 1 = .ok (.invokevirtual 128, 3) := by decide +kernel
theorem dX12_step_4 : decode cX12_step 4 = .ok (.aload_n 0, 1) := by decide +kernel
theorem dX12_step_5 : decode cX12_step 5 = .ok (.aload_n 0, 1) := by decide +kernel
theorem dX12_step_6 : decode cX12_step 6 = .ok (.iload_n 1, 1) := by decide +kernel
theorem dX12_step_7 : decode cX12_step 7 = .ok (.invokevirtual 146, 3) := by decide +kernel
theorem dX12_step_10 : decode cX12_step 10 = .ok (.ifCond .eq 22, 3) := by decide +kernel
theorem dX12_step_13 : decode cX12_step 13 = .ok (.iload_n 2, 1) := by decide +kernel
theorem dX12_step_14 : decode cX12_step 14 = .ok (.iconst 1, 1) := by decide +kernel
theorem dX12_step_15 : decode cX12_step 15 = .ok (.bipush 40, 2) := by decide +kernel
theorem dX12_step_17 : decode cX12_step 17 = .ok (.invokestatic 25, 3) := by decide +kernel
theorem dX12_step_20 : decode cX12_step 20 = .ok (.ifCond .eq 12, 3) := by decide +kernel
theorem dX12_step_23 : decode cX12_step 23 = .ok (.aload_n 0, 1) := by decide +kernel
theorem dX12_step_24 : decode cX12_step 24 = .ok (.iload_n 1, 1) := by decide +kernel
theorem dX12_step_25 : decode cX12_step 25 = .ok (.iload_n 2, 1) := by decide +kernel
theorem dX12_step_26 : decode cX12_step 26 = .ok (.invokevirtual 152, 3) := by decide +kernel
theorem dX12_step_29 : decode cX12_step 29 = .ok (.goto 5, 3) := by decide +kernel
theorem dX12_step_32 : decode cX12_step 32 = .ok (.ldc 29, 2) := by decide +kernel
theorem dX12_step_34 : decode cX12_step 34 = .ok (.invokevirtual 134, 3) := by decide +kernel
theorem dX12_step_37 : decode cX12_step 37 = .ok (.ireturn, 1) := by decide +kernel
theorem dX12_drop_0 : decode cX12_drop 0 = .ok (.aload_n 0, 1) := by decide +kernel
theorem dX12_drop_1 : decode cX12_drop 1 = .ok (.invokevirtual 128, 3) := by decide +kernel
theorem dX12_drop_4 : decode cX12_drop 4 = .ok (.aload_n 0, 1) := by decide +kernel
theorem dX12_drop_5 : decode cX12_drop 5 = .ok (.aload_n 0, 1) := by decide +kernel
theorem dX12_drop_6 : decode cX12_drop 6 = .ok (.iload_n 1, 1) := by decide +kernel
theorem dX12_drop_7 : decode cX12_drop 7 = .ok (.invokevirtual 146, 3) := by decide +kernel
theorem dX12_drop_10 : decode cX12_drop 10 = .ok (.ifCond .eq 11, 3) := by decide +kernel
theorem dX12_drop_13 : decode cX12_drop 13 = .ok (.aload_n 0, 1) := by decide +kernel
theorem dX12_drop_14 : decode cX12_drop 14 = .ok (.iload_n 1, 1) := by decide +kernel
theorem dX12_drop_15 : decode cX12_drop 15 = .ok (.invokevirtual 155, 3) := by decide +kernel
theorem dX12_drop_18 : decode cX12_drop 18 = .ok (.goto 5, 3) := by decide +kernel
theorem dX12_drop_21 : decode cX12_drop 21 = .ok (.ldc 29, 2) := by decide +kernel
theorem dX12_drop_23 : decode cX12_drop 23 = .ok (.invokevirtual 134, 3) := by decide +kernel
theorem dX12_drop_26 : decode cX12_drop 26 = .ok (.ireturn, 1) := by decide +kernel
theorem dX12_sets_0 : decode cX12_sets 0 = .ok (.aload_n 0, 1) := by decide +kernel
theorem dX12_sets_1 : decode cX12_sets 1 = .ok (.getfield 7, 3) := by decide +kernel
theorem dX12_sets_4 : decode cX12_sets 4 = .ok (.iconst 2, 1) := by decide +kernel
theorem dX12_sets_5 : decode cX12_sets 5 = .ok (.iload_n 1, 1) := by decide +kernel
theorem dX12_sets_6 : decode cX12_sets 6 = .ok (.iadd, 1) := by decide +kernel
theorem dX12_sets_7 : decode cX12_sets 7 = .ok (.iaload, 1) := by decide +kernel
theorem dX12_sets_8 : decode cX12_sets 8 = .ok (.istore_n 3, 1) := by decide +kernel
theorem dX12_sets_9 : decode cX12_sets 9 = .ok (.aload_n 0, 1) := by decide +kernel
theorem dX12_sets_10 : decode cX12_sets 10 = .ok (.getfield 7, 3) := by decide +kernel
theorem dX12_sets_13 : decode cX12_sets 13 = .ok (.iconst 2, 1) := by decide +kernel
theorem dX12_sets_14 : decode cX12_sets 14 = .ok (.iload_n 1, 1) := by decide +kernel
theorem dX12_sets_15 : decode cX12_sets 15 = .ok (.iadd, 1) := by decide +kernel
theorem dX12_sets_16 : decode cX12_sets 16 = .ok (.iload_n 2, 1) := by decide +kernel
theorem dX12_sets_17 : decode cX12_sets 17 = .ok (.iastore, 1) := by decide +kernel
theorem dX12_sets_18 : decode cX12_sets 18 = .ok (.iload_n 3, 1) := by decide +kernel
theorem dX12_sets_19 : decode cX12_sets 19 = .ok (.ireturn, 1) := by decide +kernel
theorem dX12_set_0 : decode cX12_set 0 = .ok (.aload_n 0, 1) := by decide +kernel
theorem dX12_set_1 : decode cX12_set 1 = .ok (.invokevirtual 128, 3) := by decide +kernel
theorem dX12_set_4 : decode cX12_set 4 = .ok (.iload_n 1, 1) := by decide +kernel
theorem dX12_set_5 : decode cX12_set 5 = .ok (.ifCond .ne 13, 3) := by decide +kernel
theorem dX12_set_8 : decode cX12_set 8 = .ok (.iload_n 2, 1) := by decide +kernel
theorem dX12_set_9 : decode cX12_set 9 = .ok (.iconst 1, 1) := by decide +kernel
theorem dX12_set_10 : decode cX12_set 10 = .ok (.bipush 64, 2) := by decide +kernel
theorem dX12_set_12 : decode cX12_set 12 = .ok (.invokestatic 25, 3) := by decide +kernel
theorem dX12_set_15 : decode cX12_set 15 = .ok (.ifCond .ne 34, 3) := by decide +kernel
theorem dX12_set_18 : decode cX12_set 18 = .ok (.iload_n 1, 1) := by decide +kernel
theorem dX12_set_19 : decode cX12_set 19 = .ok (.iconst 1, 1) := by decide +kernel
theorem dX12_set_20 : decode cX12_set 20 = .ok (.if_icmp .ne 14, 3) := by decide +kernel
theorem dX12_set_23 : decode cX12_set 23 = .ok (.iload_n 2, 1) := by decide +kernel
theorem dX12_set_24 : decode cX12_set 24 = .ok (.iconst 1, 1) := by decide +kernel
theorem dX12_set_25 : decode cX12_set 25 = .ok (.sipush 128, 3) := by decide +kernel
theorem dX12_set_28 : decode cX12_set 28 = .ok (.invokestatic 25, 3) := by decide +kernel
theorem dX12_set_31 : decode cX12_set 31 = .ok (.ifCond .ne 18, 3) := by decide +kernel
theorem dX12_set_34 : decode cX12_set 34 = .ok (.iload_n 1, 1) := by decide +kernel
theorem dX12_set_35 : decode cX12_set 35 = .ok (.iconst 2, 1) := by decide +kernel
theorem dX12_set_36 : decode cX12_set 36 = .ok (.if_icmp .ne 17, 3) := by decide +kernel
theorem dX12_set_39 : decode cX12_set 39 = .ok (.iload_n 2, 1) := by decide +kernel
theorem dX12_set_40 : decode cX12_set 40 = .ok (.iconst 2, 1) := by decide +kernel
theorem dX12_set_41 : decode cX12_set 41 = .ok (.bipush 20, 2) := by decide +kernel
theorem dX12_set_43 : decode cX12_set 43 = .ok (.invokestatic 25, 3) := by decide +kernel
theorem dX12_set_46 : decode cX12_set 46 = .ok (.ifCond .eq 7, 3) := by decide +kernel
theorem dX12_set_49 : decode cX12_set 49 = .ok (.iconst 1, 1) := by decide +kernel
theorem dX12_set_50 : decode cX12_set 50 = .ok (.goto 4, 3) := by decide +kernel
theorem dX12_set_53 : decode cX12_set 53 = .ok (.iconst 0, 1) := by decide +kernel
theorem dX12_set_54 : decode cX12_set 54 = .ok (.istore_n 3, 1) := by decide +kernel
theorem dX12_set_55 : decode cX12_set 55 = .ok (.aload_n 0, 1) := by decide +kernel
theorem dX12_set_56 : decode cX12_set 56 = .ok (.iload_n 3, 1) := by decide +kernel
theorem dX12_set_57 : decode cX12_set 57 = .ok (.ifCond .eq 12, 3) := by decide +kernel
theorem dX12_set_60 : decode cX12_set 60 = .ok (.aload_n 0, 1) := by decide +kernel
theorem dX12_set_61 : decode cX12_set 61 = .ok (.iload_n 1, 1) := by decide +kernel
theorem dX12_set_62 : decode cX12_set 62 = .ok (.iload_n 2, 1) := by decide +kernel
theorem dX12_set_63 : decode cX12_set 63 = .ok (.invokevirtual 158, 3) := by decide +kernel
theorem dX12_set_66 : decode cX12_set 66 = .ok (.goto 5, 3) := by decide +kernel
theorem dX12_set_69 : decode cX12_set 69 = .ok (.ldc 29, 2) := by decide +kernel
theorem dX12_set_71 : decode cX12_set 71 = .ok (.invokevirtual 134, 3) := by decide +kernel
theorem dX12_set_74 : decode cX12_set 74 = .ok (.ireturn, 1) := by decide +kernel
theorem dX12_termOf_0 : decode cX12_termOf 0 = .ok (.iload_n 1, 1) := by decide +kernel
theorem dX12_termOf_1 : decode cX12_termOf 1 = .ok (.ifCond .lt 12, 3) := by decide +kernel
theorem dX12_termOf_4 : decode cX12_termOf 4 = .ok (.iload_n 2, 1) := by decide +kernel
theorem dX12_termOf_5 : decode cX12_termOf 5 = .ok (.iconst 0, 1) := by decide +kernel
theorem dX12_termOf_6 : decode cX12_termOf 6 = .ok (.iconst 2, 1) := by decide +kernel
theorem dX12_termOf_7 : decode cX12_termOf 7 = .ok (.invokestatic 25, 3) := by decide +kernel
theorem dX12_termOf_10 : decode cX12_termOf 10 = .ok (.ifCond .ne 6, 3) := by decide +kernel
theorem dX12_termOf_13 : decode cX12_termOf 13 = .ok (.ldc 29, 2) := by decide +kernel
theorem dX12_termOf_15 : decode cX12_termOf 15 = .ok (.ireturn, 1) := by decide +kernel
theorem dX12_termOf_16 : decode cX12_termOf 16 = .ok (.iload_n 1, 1) := by decide +kernel
theorem dX12_termOf_17 : decode cX12_termOf 17 = .ok (.aload_n 0, 1) := by decide +kernel
theorem dX12_termOf_18 : decode cX12_termOf 18 = .ok (.getfield 7, 3) := by decide +kernel
theorem dX12_termOf_21 : decode cX12_termOf 21 = .ok (.iconst 0, 1) := by decide +kernel
theorem dX12_termOf_22 : decode cX12_termOf 22 = .ok (.iaload, 1) := by decide +kernel
theorem dX12_termOf_23 : decode cX12_termOf 23 = .ok (.if_icmp .ge 12, 3) := by decide +kernel
theorem dX12_termOf_26 : decode cX12_termOf 26 = .ok (.aload_n 0, 1) := by decide +kernel
theorem dX12_termOf_27 : decode cX12_termOf 27 = .ok (.iload_n 1, 1) := by decide +kernel
theorem dX12_termOf_28 : decode cX12_termOf 28 = .ok (.iload_n 2, 1) := by decide +kernel
theorem dX12_termOf_29 : decode cX12_termOf 29 = .ok (.invokevirtual 37, 3) := by decide +kernel
theorem dX12_termOf_32 : decode cX12_termOf 32 = .ok (.goto 5, 3) := by decide +kernel
theorem dX12_termOf_35 : decode cX12_termOf 35 = .ok (.ldc 161, 2) := by decide +kernel
theorem dX12_termOf_37 : decode cX12_termOf 37 = .ok (.ireturn, 1) := by decide +kernel
theorem dX12_value_0 : decode cX12_value 0 = .ok (.iload_n 1, 1) := by decide +kernel
theorem dX12_value_1 : decode cX12_value 1 = .ok (.invokestatic 140, 3) := by decide +kernel
theorem dX12_value_4 : decode cX12_value 4 = .ok (.ifCond .eq 33, 3) := by decide +kernel
theorem dX12_value_7 : decode cX12_value 7 = .ok (.iload_n 2, 1) := by decide +kernel
theorem dX12_value_8 : decode cX12_value 8 = .ok (.invokestatic 140, 3) := by decide +kernel
theorem dX12_value_11 : decode cX12_value 11 = .ok (.ifCond .eq 26, 3) := by decide +kernel
theorem dX12_value_14 : decode cX12_value 14 = .ok (.iload_n 3, 1) := by decide +kernel
theorem dX12_value_15 : decode cX12_value 15 = .ok (.iconst 0, 1) := by decide +kernel
theorem dX12_value_16 : decode cX12_value 16 = .ok (.iconst 2, 1) := by decide +kernel
theorem dX12_value_17 : decode cX12_value 17 = .ok (.invokestatic 25, 3) := by decide +kernel
theorem dX12_value_20 : decode cX12_value 20 = .ok (.ifCond .eq 17, 3) := by decide +kernel
theorem dX12_value_23 : decode cX12_value 23 = .ok (.aload_n 0, 1) := by decide +kernel
theorem dX12_value_24 : decode cX12_value 24 = .ok (.iload_n 1, 1) := by decide +kernel
theorem dX12_value_25 : decode cX12_value 25 = .ok (.iload_n 2, 1) := by decide +kernel
theorem dX12_value_26 : decode cX12_value 26 = .ok (.iload_n 3, 1) := by decide +kernel
theorem dX12_value_27 : decode cX12_value 27 = .ok (.invokevirtual 61, 3) := by decide +kernel
theorem dX12_value_30 : decode cX12_value 30 = .ok (.ldc2_w 162, 3) := by decide +kernel
theorem dX12_value_33 : decode cX12_value 33 = .ok (.ladd, 1) := by decide +kernel
theorem dX12_value_34 : decode cX12_value 34 = .ok (.goto 6, 3) := by decide +kernel
theorem dX12_value_37 : decode cX12_value 37 = .ok (.ldc2_w 164, 3) := by decide +kernel
theorem dX12_value_40 : decode cX12_value 40 = .ok (.lreturn, 1) := by decide +kernel
theorem dX12_corrected_0 : decode cX12_corrected 0 = .ok (.iload_n 1, 1) := by decide +kernel
theorem dX12_corrected_1 : decode cX12_corrected 1 = .ok (.invokestatic 140, 3) := by decide +kernel
theorem dX12_corrected_4 : decode cX12_corrected 4 = .ok (.ifCond .eq 19, 3) := by decide +kernel
theorem dX12_corrected_7 : decode cX12_corrected 7 = .ok (.iload_n 2, 1) := by decide +kernel
theorem dX12_corrected_8 : decode cX12_corrected 8 = .ok (.invokestatic 140, 3) := by decide +kernel
theorem dX12_corrected_11 : decode cX12_corrected 11 = .ok (.ifCond .eq 12, 3) := by decide +kernel
theorem dX12_corrected_14 : decode cX12_corrected 14 = .ok (.iload_n 3, 1) := by decide +kernel
theorem dX12_corrected_15 : decode cX12_corrected 15 = .ok (.iconst 0, 1) := by decide +kernel
theorem dX12_corrected_16 : decode cX12_corrected 16 = .ok (.iconst 2, 1) := by decide +kernel
theorem dX12_corrected_17 : decode cX12_corrected 17 = .ok (.invokestatic 25, 3) := by decide +kernel
theorem dX12_corrected_20 : decode cX12_corrected 20 = .ok (.ifCond .ne 6, 3) := by decide +kernel
theorem dX12_corrected_23 : decode cX12_corrected 23 = .ok (.ldc 29, 2) := by decide +kernel
theorem dX12_corrected_25 : decode cX12_corrected 25 = .ok (.ireturn, 1) := by decide +kernel
theorem dX12_corrected_26 : decode cX12_corrected 26 = .ok (.aload_n 0, 1) := by decide +kernel
theorem dX12_corrected_27 : decode cX12_corrected 27 = .ok (.iload_n 1, 1) := by decide +kernel
theorem dX12_corrected_28 : decode cX12_corrected 28 = .ok (.i2l, 1) := by decide +kernel
theorem dX12_corrected_29 : decode cX12_corrected 29 = .ok (.iload_n 2, 1) := by decide +kernel
theorem dX12_corrected_30 : decode cX12_corrected 30 = .ok (.i2l, 1) := by decide +kernel
theorem dX12_corrected_31 : decode cX12_corrected 31 = .ok (.invokevirtual 99, 3) := by decide +kernel
theorem dX12_corrected_34 : decode cX12_corrected 34 = .ok (.ifCond .ne 8, 3) := by decide +kernel
theorem dX12_corrected_37 : decode cX12_corrected 37 = .ok (.ldc 161, 2) := by decide +kernel
theorem dX12_corrected_39 : decode cX12_corrected 39 = .ok (.goto 30, 3) := by decide +kernel
theorem dX12_corrected_42 : decode cX12_corrected 42 = .ok (.iload_n 3, 1) := by decide +kernel
theorem dX12_corrected_43 : decode cX12_corrected 43 = .ok (.ifCond .ne 10, 3) := by decide +kernel
theorem dX12_corrected_46 : decode cX12_corrected 46 = .ok (.aload_n 0, 1) := by decide +kernel
theorem dX12_corrected_47 : decode cX12_corrected 47 = .ok (.getfield 55, 3) := by decide +kernel
theorem dX12_corrected_50 : decode cX12_corrected 50 = .ok (.goto 19, 3) := by decide +kernel
theorem dX12_corrected_53 : decode cX12_corrected 53 = .ok (.iload_n 3, 1) := by decide +kernel
theorem dX12_corrected_54 : decode cX12_corrected 54 = .ok (.iconst 1, 1) := by decide +kernel
theorem dX12_corrected_55 : decode cX12_corrected 55 = .ok (.if_icmp .ne 10, 3) := by decide +kernel
theorem dX12_corrected_58 : decode cX12_corrected 58 = .ok (.aload_n 0, 1) := by decide +kernel
theorem dX12_corrected_59 : decode cX12_corrected 59 = .ok (.getfield 58, 3) := by decide +kernel
theorem dX12_corrected_62 : decode cX12_corrected 62 = .ok (.goto 7, 3) := by decide +kernel
theorem dX12_corrected_65 : decode cX12_corrected 65 = .ok (.aload_n 0, 1) := by decide +kernel
theorem dX12_corrected_66 : decode cX12_corrected 66 = .ok (.getfield 65, 3) := by decide +kernel
theorem dX12_corrected_69 : decode cX12_corrected 69 = .ok (.ireturn, 1) := by decide +kernel
theorem dX12_ofKind_0 : decode cX12_ofKind 0 = .ok (.iconst 0, 1) := by decide +kernel
theorem dX12_ofKind_1 : decode cX12_ofKind 1 = .ok (.istore_n 3, 1) := by decide +kernel
theorem dX12_ofKind_2 : decode cX12_ofKind 2 = .ok (.iconst 0, 1) := by decide +kernel
theorem dX12_ofKind_3 : decode cX12_ofKind 3 = .ok (.istore 4, 2) := by decide +kernel
theorem dX12_ofKind_5 : decode cX12_ofKind 5 = .ok (.iload 4, 2) := by decide +kernel
theorem dX12_ofKind_7 : decode cX12_ofKind 7 = .ok (.aload_n 0, 1) := by decide +kernel
theorem dX12_ofKind_8 : decode cX12_ofKind 8 = .ok (.iload_n 1, 1) := by decide +kernel
theorem dX12_ofKind_9 : decode cX12_ofKind 9 = .ok (.invokevirtual 80, 3) := by decide +kernel
theorem dX12_ofKind_12 : decode cX12_ofKind 12 = .ok (.if_icmp .ge 29, 3) := by decide +kernel
theorem dX12_ofKind_15 : decode cX12_ofKind 15 = .ok (.iload_n 3, 1) := by decide +kernel
theorem dX12_ofKind_16 : decode cX12_ofKind 16 = .ok (.aload_n 0, 1) := by decide +kernel
theorem dX12_ofKind_17 : decode cX12_ofKind 17 = .ok (.iload_n 1, 1) := by decide +kernel
theorem dX12_ofKind_18 : decode cX12_ofKind 18 = .ok (.iload 4, 2) := by decide +kernel
theorem dX12_ofKind_20 : decode cX12_ofKind 20 = .ok (.iconst 3, 1) := by decide +kernel
theorem dX12_ofKind_21 : decode cX12_ofKind 21 = .ok (.invokevirtual 103, 3) := by decide +kernel
theorem dX12_ofKind_24 : decode cX12_ofKind 24 = .ok (.iload_n 2, 1) := by decide +kernel
theorem dX12_ofKind_25 : decode cX12_ofKind 25 = .ok (.if_icmp .ne 7, 3) := by decide +kernel
theorem dX12_ofKind_28 : decode cX12_ofKind 28 = .ok (.iconst 1, 1) := by decide +kernel
theorem dX12_ofKind_29 : decode cX12_ofKind 29 = .ok (.goto 4, 3) := by decide +kernel
theorem dX12_ofKind_32 : decode cX12_ofKind 32 = .ok (.iconst 0, 1) := by decide +kernel
theorem dX12_ofKind_33 : decode cX12_ofKind 33 = .ok (.iadd, 1) := by decide +kernel
theorem dX12_ofKind_34 : decode cX12_ofKind 34 = .ok (.istore_n 3, 1) := by decide +kernel
theorem dX12_ofKind_35 : decode cX12_ofKind 35 = .ok (.iinc 4 1, 3) := by decide +kernel
theorem dX12_ofKind_38 : decode cX12_ofKind 38 = .ok (.goto (-33), 3) := by decide +kernel
theorem dX12_ofKind_41 : decode cX12_ofKind 41 = .ok (.iload_n 3, 1) := by decide +kernel
theorem dX12_ofKind_42 : decode cX12_ofKind 42 = .ok (.ireturn, 1) := by decide +kernel
theorem dX12_begunFrom_0 : decode cX12_begunFrom 0 = .ok (.iconst 0, 1) := by decide +kernel
theorem dX12_begunFrom_1 : decode cX12_begunFrom 1 = .ok (.istore_n 2, 1) := by decide +kernel
theorem dX12_begunFrom_2 : decode cX12_begunFrom 2 = .ok (.iconst 0, 1) := by decide +kernel
theorem dX12_begunFrom_3 : decode cX12_begunFrom 3 = .ok (.istore_n 3, 1) := by decide +kernel
theorem dX12_begunFrom_4 : decode cX12_begunFrom 4 = .ok (.iload_n 3, 1) := by decide +kernel
theorem dX12_begunFrom_5 : decode cX12_begunFrom 5 = .ok (.aload_n 0, 1) := by decide +kernel
theorem dX12_begunFrom_6 : decode cX12_begunFrom 6 = .ok (.getfield 7, 3) := by decide +kernel
theorem dX12_begunFrom_9 : decode cX12_begunFrom 9 = .ok (.iconst 1, 1) := by decide +kernel
theorem dX12_begunFrom_10 : decode cX12_begunFrom 10 = .ok (.iaload, 1) := by decide +kernel
theorem dX12_begunFrom_11 : decode cX12_begunFrom 11 = .ok (.if_icmp .ge 31, 3) := by decide +kernel
theorem dX12_begunFrom_14 : decode cX12_begunFrom 14 = .ok (.iload_n 2, 1) := by decide +kernel
theorem dX12_begunFrom_15 : decode cX12_begunFrom 15 = .ok (.iload_n 3, 1) := by decide +kernel
theorem dX12_begunFrom_16 : decode cX12_begunFrom 16 = .ok (.iload_n 1, 1) := by decide +kernel
theorem dX12_begunFrom_17 : decode cX12_begunFrom 17 = .ok (.if_icmp .eq 16, 3) := by decide +kernel
theorem dX12_begunFrom_20 : decode cX12_begunFrom 20 = .ok (.aload_n 0, 1) := by decide +kernel
theorem dX12_begunFrom_21 : decode cX12_begunFrom 21 = .ok (.iload_n 3, 1) := by decide +kernel
theorem dX12_begunFrom_22 : decode cX12_begunFrom 22 = .ok (.iload_n 1, 1) := by decide +kernel
theorem dX12_begunFrom_23 : decode cX12_begunFrom 23 = .ok (.invokevirtual 124, 3) := by decide +kernel
theorem dX12_begunFrom_26 : decode cX12_begunFrom 26 = .ok (.ifCond .eq 7, 3) := by decide +kernel
theorem dX12_begunFrom_29 : decode cX12_begunFrom 29 = .ok (.iconst 1, 1) := by decide +kernel
theorem dX12_begunFrom_30 : decode cX12_begunFrom 30 = .ok (.goto 4, 3) := by decide +kernel
theorem dX12_begunFrom_33 : decode cX12_begunFrom 33 = .ok (.iconst 0, 1) := by decide +kernel
theorem dX12_begunFrom_34 : decode cX12_begunFrom 34 = .ok (.iadd, 1) := by decide +kernel
theorem dX12_begunFrom_35 : decode cX12_begunFrom 35 = .ok (.istore_n 2, 1) := by decide +kernel
theorem dX12_begunFrom_36 : decode cX12_begunFrom 36 = .ok (.iinc 3 1, 3) := by decide +kernel
theorem dX12_begunFrom_39 : decode cX12_begunFrom 39 = .ok (.goto (-35), 3) := by decide +kernel
theorem dX12_begunFrom_42 : decode cX12_begunFrom 42 = .ok (.iload_n 2, 1) := by decide +kernel
theorem dX12_begunFrom_43 : decode cX12_begunFrom 43 = .ok (.ireturn, 1) := by decide +kernel
theorem dX12_walkOf_0 : decode cX12_walkOf 0 = .ok (.aload_n 0, 1) := by decide +kernel
theorem dX12_walkOf_1 : decode cX12_walkOf 1 = .ok (.iload_n 1, 1) := by decide +kernel
theorem dX12_walkOf_2 : decode cX12_walkOf 2 = .ok (.invokevirtual 146, 3) := by decide +kernel
theorem dX12_walkOf_5 : decode cX12_walkOf 5 = .ok (.ifCond .eq 13, 3) := by decide +kernel
theorem dX12_walkOf_8 : decode cX12_walkOf 8 = .ok (.iload_n 2, 1) := by decide +kernel
theorem dX12_walkOf_9 : decode cX12_walkOf 9 = .ok (.iconst 0, 1) := by decide +kernel
theorem dX12_walkOf_10 : decode cX12_walkOf 10 = .ok (.bipush 8, 2) := by decide +kernel
theorem dX12_walkOf_12 : decode cX12_walkOf 12 = .ok (.invokestatic 25, 3) := by decide +kernel
theorem dX12_walkOf_15 : decode cX12_walkOf 15 = .ok (.ifCond .ne 6, 3) := by decide +kernel
theorem dX12_walkOf_18 : decode cX12_walkOf 18 = .ok (.ldc 29, 2) := by decide +kernel
theorem dX12_walkOf_20 : decode cX12_walkOf 20 = .ok (.ireturn, 1) := by decide +kernel
theorem dX12_walkOf_21 : decode cX12_walkOf 21 = .ok (.iload_n 2, 1) := by decide +kernel
theorem dX12_walkOf_22 : decode cX12_walkOf 22 = .ok (.tableswitch 91 0 7 #[46, 46, 46, 53, 59, 59, 68, 68], 46) := by decide +kernel
theorem dX12_walkOf_68 : decode cX12_walkOf 68 = .ok (.aload_n 0, 1) := by decide +kernel
theorem dX12_walkOf_69 : decode cX12_walkOf 69 = .ok (.iload_n 1, 1) := by decide +kernel
theorem dX12_walkOf_70 : decode cX12_walkOf 70 = .ok (.iload_n 2, 1) := by decide +kernel
theorem dX12_walkOf_71 : decode cX12_walkOf 71 = .ok (.invokevirtual 92, 3) := by decide +kernel
theorem dX12_walkOf_74 : decode cX12_walkOf 74 = .ok (.ireturn, 1) := by decide +kernel
theorem dX12_walkOf_75 : decode cX12_walkOf 75 = .ok (.aload_n 0, 1) := by decide +kernel
theorem dX12_walkOf_76 : decode cX12_walkOf 76 = .ok (.iload_n 1, 1) := by decide +kernel
theorem dX12_walkOf_77 : decode cX12_walkOf 77 = .ok (.invokevirtual 113, 3) := by decide +kernel
theorem dX12_walkOf_80 : decode cX12_walkOf 80 = .ok (.ireturn, 1) := by decide +kernel
theorem dX12_walkOf_81 : decode cX12_walkOf 81 = .ok (.aload_n 0, 1) := by decide +kernel
theorem dX12_walkOf_82 : decode cX12_walkOf 82 = .ok (.iload_n 1, 1) := by decide +kernel
theorem dX12_walkOf_83 : decode cX12_walkOf 83 = .ok (.iload_n 2, 1) := by decide +kernel
theorem dX12_walkOf_84 : decode cX12_walkOf 84 = .ok (.iconst 3, 1) := by decide +kernel
theorem dX12_walkOf_85 : decode cX12_walkOf 85 = .ok (.isub, 1) := by decide +kernel
theorem dX12_walkOf_86 : decode cX12_walkOf 86 = .ok (.invokevirtual 166, 3) := by decide +kernel
theorem dX12_walkOf_89 : decode cX12_walkOf 89 = .ok (.ireturn, 1) := by decide +kernel
theorem dX12_walkOf_90 : decode cX12_walkOf 90 = .ok (.aload_n 0, 1) := by decide +kernel
theorem dX12_walkOf_91 : decode cX12_walkOf 91 = .ok (.iload_n 1, 1) := by decide +kernel
theorem dX12_walkOf_92 : decode cX12_walkOf 92 = .ok (.iconst 4, 1) := by decide +kernel
theorem dX12_walkOf_93 : decode cX12_walkOf 93 = .ok (.invokevirtual 92, 3) := by decide +kernel
theorem dX12_walkOf_96 : decode cX12_walkOf 96 = .ok (.ifCond .ge 8, 3) := by decide +kernel
theorem dX12_walkOf_99 : decode cX12_walkOf 99 = .ok (.ldc 161, 2) := by decide +kernel
theorem dX12_walkOf_101 : decode cX12_walkOf 101 = .ok (.goto 11, 3) := by decide +kernel
theorem dX12_walkOf_104 : decode cX12_walkOf 104 = .ok (.aload_n 0, 1) := by decide +kernel
theorem dX12_walkOf_105 : decode cX12_walkOf 105 = .ok (.iload_n 1, 1) := by decide +kernel
theorem dX12_walkOf_106 : decode cX12_walkOf 106 = .ok (.iload_n 2, 1) := by decide +kernel
theorem dX12_walkOf_107 : decode cX12_walkOf 107 = .ok (.iconst 2, 1) := by decide +kernel
theorem dX12_walkOf_108 : decode cX12_walkOf 108 = .ok (.isub, 1) := by decide +kernel
theorem dX12_walkOf_109 : decode cX12_walkOf 109 = .ok (.invokevirtual 92, 3) := by decide +kernel
theorem dX12_walkOf_112 : decode cX12_walkOf 112 = .ok (.ireturn, 1) := by decide +kernel
theorem dX12_walkOf_113 : decode cX12_walkOf 113 = .ok (.aload_n 0, 1) := by decide +kernel
theorem dX12_walkOf_114 : decode cX12_walkOf 114 = .ok (.iload_n 1, 1) := by decide +kernel
theorem dX12_walkOf_115 : decode cX12_walkOf 115 = .ok (.invokevirtual 169, 3) := by decide +kernel
theorem dX12_walkOf_118 : decode cX12_walkOf 118 = .ok (.ireturn, 1) := by decide +kernel
theorem dX12_placeOf_0 : decode cX12_placeOf 0 = .ok (.aload_n 0, 1) := by decide +kernel
theorem dX12_placeOf_1 : decode cX12_placeOf 1 = .ok (.iload_n 1, 1) := by decide +kernel
theorem dX12_placeOf_2 : decode cX12_placeOf 2 = .ok (.invokevirtual 146, 3) := by decide +kernel
theorem dX12_placeOf_5 : decode cX12_placeOf 5 = .ok (.ifCond .eq 16, 3) := by decide +kernel
theorem dX12_placeOf_8 : decode cX12_placeOf 8 = .ok (.iload_n 2, 1) := by decide +kernel
theorem dX12_placeOf_9 : decode cX12_placeOf 9 = .ok (.ifCond .lt 12, 3) := by decide +kernel
theorem dX12_placeOf_12 : decode cX12_placeOf 12 = .ok (.iload_n 3, 1) := by decide +kernel
theorem dX12_placeOf_13 : decode cX12_placeOf 13 = .ok (.iconst 0, 1) := by decide +kernel
theorem dX12_placeOf_14 : decode cX12_placeOf 14 = .ok (.iconst 3, 1) := by decide +kernel
theorem dX12_placeOf_15 : decode cX12_placeOf 15 = .ok (.invokestatic 25, 3) := by decide +kernel
theorem dX12_placeOf_18 : decode cX12_placeOf 18 = .ok (.ifCond .ne 6, 3) := by decide +kernel
theorem dX12_placeOf_21 : decode cX12_placeOf 21 = .ok (.ldc 29, 2) := by decide +kernel
theorem dX12_placeOf_23 : decode cX12_placeOf 23 = .ok (.ireturn, 1) := by decide +kernel
theorem dX12_placeOf_24 : decode cX12_placeOf 24 = .ok (.iload_n 2, 1) := by decide +kernel
theorem dX12_placeOf_25 : decode cX12_placeOf 25 = .ok (.aload_n 0, 1) := by decide +kernel
theorem dX12_placeOf_26 : decode cX12_placeOf 26 = .ok (.iload_n 1, 1) := by decide +kernel
theorem dX12_placeOf_27 : decode cX12_placeOf 27 = .ok (.invokevirtual 80, 3) := by decide +kernel
theorem dX12_placeOf_30 : decode cX12_placeOf 30 = .ok (.if_icmp .ge 13, 3) := by decide +kernel
theorem dX12_placeOf_33 : decode cX12_placeOf 33 = .ok (.aload_n 0, 1) := by decide +kernel
theorem dX12_placeOf_34 : decode cX12_placeOf 34 = .ok (.iload_n 1, 1) := by decide +kernel
theorem dX12_placeOf_35 : decode cX12_placeOf 35 = .ok (.iload_n 2, 1) := by decide +kernel
theorem dX12_placeOf_36 : decode cX12_placeOf 36 = .ok (.iload_n 3, 1) := by decide +kernel
theorem dX12_placeOf_37 : decode cX12_placeOf 37 = .ok (.invokevirtual 103, 3) := by decide +kernel
theorem dX12_placeOf_40 : decode cX12_placeOf 40 = .ok (.goto 5, 3) := by decide +kernel
theorem dX12_placeOf_43 : decode cX12_placeOf 43 = .ok (.ldc 161, 2) := by decide +kernel
theorem dX12_placeOf_45 : decode cX12_placeOf 45 = .ok (.ireturn, 1) := by decide +kernel
theorem dX12_ofWalks_0 : decode cX12_ofWalks 0 = .ok (.iconst 0, 1) := by decide +kernel
theorem dX12_ofWalks_1 : decode cX12_ofWalks 1 = .ok (.istore_n 2, 1) := by decide +kernel
theorem dX12_ofWalks_2 : decode cX12_ofWalks 2 = .ok (.iconst 0, 1) := by decide +kernel
theorem dX12_ofWalks_3 : decode cX12_ofWalks 3 = .ok (.istore_n 3, 1) := by decide +kernel
theorem dX12_ofWalks_4 : decode cX12_ofWalks 4 = .ok (.iload_n 3, 1) := by decide +kernel
theorem dX12_ofWalks_5 : decode cX12_ofWalks 5 = .ok (.aload_n 0, 1) := by decide +kernel
theorem dX12_ofWalks_6 : decode cX12_ofWalks 6 = .ok (.getfield 7, 3) := by decide +kernel
theorem dX12_ofWalks_9 : decode cX12_ofWalks 9 = .ok (.iconst 1, 1) := by decide +kernel
theorem dX12_ofWalks_10 : decode cX12_ofWalks 10 = .ok (.iaload, 1) := by decide +kernel
theorem dX12_ofWalks_11 : decode cX12_ofWalks 11 = .ok (.if_icmp .ge 30, 3) := by decide +kernel
theorem dX12_ofWalks_14 : decode cX12_ofWalks 14 = .ok (.iload_n 2, 1) := by decide +kernel
theorem dX12_ofWalks_15 : decode cX12_ofWalks 15 = .ok (.iload_n 1, 1) := by decide +kernel
theorem dX12_ofWalks_16 : decode cX12_ofWalks 16 = .ok (.ifCond .ne 11, 3) := by decide +kernel
theorem dX12_ofWalks_19 : decode cX12_ofWalks 19 = .ok (.aload_n 0, 1) := by decide +kernel
theorem dX12_ofWalks_20 : decode cX12_ofWalks 20 = .ok (.iload_n 3, 1) := by decide +kernel
theorem dX12_ofWalks_21 : decode cX12_ofWalks 21 = .ok (.invokevirtual 80, 3) := by decide +kernel
theorem dX12_ofWalks_24 : decode cX12_ofWalks 24 = .ok (.goto 9, 3) := by decide +kernel
theorem dX12_ofWalks_27 : decode cX12_ofWalks 27 = .ok (.aload_n 0, 1) := by decide +kernel
theorem dX12_ofWalks_28 : decode cX12_ofWalks 28 = .ok (.iload_n 3, 1) := by decide +kernel
theorem dX12_ofWalks_29 : decode cX12_ofWalks 29 = .ok (.iload_n 1, 1) := by decide +kernel
theorem dX12_ofWalks_30 : decode cX12_ofWalks 30 = .ok (.invokevirtual 166, 3) := by decide +kernel
theorem dX12_ofWalks_33 : decode cX12_ofWalks 33 = .ok (.iadd, 1) := by decide +kernel
theorem dX12_ofWalks_34 : decode cX12_ofWalks 34 = .ok (.istore_n 2, 1) := by decide +kernel
theorem dX12_ofWalks_35 : decode cX12_ofWalks 35 = .ok (.iinc 3 1, 3) := by decide +kernel
theorem dX12_ofWalks_38 : decode cX12_ofWalks 38 = .ok (.goto (-34), 3) := by decide +kernel
theorem dX12_ofWalks_41 : decode cX12_ofWalks 41 = .ok (.iload_n 2, 1) := by decide +kernel
theorem dX12_ofWalks_42 : decode cX12_ofWalks 42 = .ok (.ireturn, 1) := by decide +kernel
theorem dX12_count_0 : decode cX12_count 0 = .ok (.iload_n 1, 1) := by decide +kernel
theorem dX12_count_1 : decode cX12_count 1 = .ok (.tableswitch 68 0 6 #[43, 43, 50, 50, 50, 58, 63], 43) := by decide +kernel
theorem dX12_count_44 : decode cX12_count 44 = .ok (.aload_n 0, 1) := by decide +kernel
theorem dX12_count_45 : decode cX12_count 45 = .ok (.getfield 7, 3) := by decide +kernel
theorem dX12_count_48 : decode cX12_count 48 = .ok (.iload_n 1, 1) := by decide +kernel
theorem dX12_count_49 : decode cX12_count 49 = .ok (.iaload, 1) := by decide +kernel
theorem dX12_count_50 : decode cX12_count 50 = .ok (.ireturn, 1) := by decide +kernel
theorem dX12_count_51 : decode cX12_count 51 = .ok (.aload_n 0, 1) := by decide +kernel
theorem dX12_count_52 : decode cX12_count 52 = .ok (.iload_n 1, 1) := by decide +kernel
theorem dX12_count_53 : decode cX12_count 53 = .ok (.iconst 2, 1) := by decide +kernel
theorem dX12_count_54 : decode cX12_count 54 = .ok (.isub, 1) := by decide +kernel
theorem dX12_count_55 : decode cX12_count 55 = .ok (.invokevirtual 172, 3) := by decide +kernel
theorem dX12_count_58 : decode cX12_count 58 = .ok (.ireturn, 1) := by decide +kernel
theorem dX12_count_59 : decode cX12_count 59 = .ok (.aload_n 0, 1) := by decide +kernel
theorem dX12_count_60 : decode cX12_count 60 = .ok (.getfield 33, 3) := by decide +kernel
theorem dX12_count_63 : decode cX12_count 63 = .ok (.ireturn, 1) := by decide +kernel
theorem dX12_count_64 : decode cX12_count 64 = .ok (.aload_n 0, 1) := by decide +kernel
theorem dX12_count_65 : decode cX12_count 65 = .ok (.getfield 175, 3) := by decide +kernel
theorem dX12_count_68 : decode cX12_count 68 = .ok (.ireturn, 1) := by decide +kernel
theorem dX12_count_69 : decode cX12_count 69 = .ok (.iload_n 1, 1) := by decide +kernel
theorem dX12_count_70 : decode cX12_count 70 = .ok (.bipush 10, 2) := by decide +kernel
theorem dX12_count_72 : decode cX12_count 72 = .ok (.bipush 12, 2) := by decide +kernel
theorem dX12_count_74 : decode cX12_count 74 = .ok (.invokestatic 25, 3) := by decide +kernel
theorem dX12_count_77 : decode cX12_count 77 = .ok (.ifCond .eq 17, 3) := by decide +kernel
theorem dX12_count_80 : decode cX12_count 80 = .ok (.aload_n 0, 1) := by decide +kernel
theorem dX12_count_81 : decode cX12_count 81 = .ok (.getfield 7, 3) := by decide +kernel
theorem dX12_count_84 : decode cX12_count 84 = .ok (.iconst 2, 1) := by decide +kernel
theorem dX12_count_85 : decode cX12_count 85 = .ok (.iload_n 1, 1) := by decide +kernel
theorem dX12_count_86 : decode cX12_count 86 = .ok (.iadd, 1) := by decide +kernel
theorem dX12_count_87 : decode cX12_count 87 = .ok (.bipush 10, 2) := by decide +kernel
theorem dX12_count_89 : decode cX12_count 89 = .ok (.isub, 1) := by decide +kernel
theorem dX12_count_90 : decode cX12_count 90 = .ok (.iaload, 1) := by decide +kernel
theorem dX12_count_91 : decode cX12_count 91 = .ok (.goto 5, 3) := by decide +kernel
theorem dX12_count_94 : decode cX12_count 94 = .ok (.ldc 29, 2) := by decide +kernel
theorem dX12_count_96 : decode cX12_count 96 = .ok (.ireturn, 1) := by decide +kernel
theorem dX12_meets_0 : decode cX12_meets 0 = .ok (.iload_n 1, 1) := by decide +kernel
theorem dX12_meets_1 : decode cX12_meets 1 = .ok (.invokestatic 140, 3) := by decide +kernel
theorem dX12_meets_4 : decode cX12_meets 4 = .ok (.ifCond .ne 6, 3) := by decide +kernel
theorem dX12_meets_7 : decode cX12_meets 7 = .ok (.ldc 29, 2) := by decide +kernel
theorem dX12_meets_9 : decode cX12_meets 9 = .ok (.ireturn, 1) := by decide +kernel
theorem dX12_meets_10 : decode cX12_meets 10 = .ok (.iconst 0, 1) := by decide +kernel
theorem dX12_meets_11 : decode cX12_meets 11 = .ok (.istore_n 2, 1) := by decide +kernel
theorem dX12_meets_12 : decode cX12_meets 12 = .ok (.iconst 0, 1) := by decide +kernel
theorem dX12_meets_13 : decode cX12_meets 13 = .ok (.istore_n 3, 1) := by decide +kernel
theorem dX12_meets_14 : decode cX12_meets 14 = .ok (.sipush (-1024), 3) := by decide +kernel
theorem dX12_meets_17 : decode cX12_meets 17 = .ok (.istore 4, 2) := by decide +kernel
theorem dX12_meets_19 : decode cX12_meets 19 = .ok (.iload 4, 2) := by decide +kernel
theorem dX12_meets_21 : decode cX12_meets 21 = .ok (.sipush 1024, 3) := by decide +kernel
theorem dX12_meets_24 : decode cX12_meets 24 = .ok (.if_icmp .gt 71, 3) := by decide +kernel
theorem dX12_meets_27 : decode cX12_meets 27 = .ok (.aload_n 0, 1) := by decide +kernel
theorem dX12_meets_28 : decode cX12_meets 28 = .ok (.iload_n 1, 1) := by decide +kernel
theorem dX12_meets_29 : decode cX12_meets 29 = .ok (.iload 4, 2) := by decide +kernel
theorem dX12_meets_31 : decode cX12_meets 31 = .ok (.iconst 0, 1) := by decide +kernel
theorem dX12_meets_32 : decode cX12_meets 32 = .ok (.invokevirtual 61, 3) := by decide +kernel
theorem dX12_meets_35 : decode cX12_meets 35 = .ok (.lstore 5, 2) := by decide +kernel
theorem dX12_meets_37 : decode cX12_meets 37 = .ok (.lload 5, 2) := by decide +kernel
theorem dX12_meets_39 : decode cX12_meets 39 = .ok (.lconst 0, 1) := by decide +kernel
theorem dX12_meets_40 : decode cX12_meets 40 = .ok (.lcmp, 1) := by decide +kernel
theorem dX12_meets_41 : decode cX12_meets 41 = .ok (.ifCond .le 7, 3) := by decide +kernel
theorem dX12_meets_44 : decode cX12_meets 44 = .ok (.iconst 1, 1) := by decide +kernel
theorem dX12_meets_45 : decode cX12_meets 45 = .ok (.goto 15, 3) := by decide +kernel
theorem dX12_meets_48 : decode cX12_meets 48 = .ok (.lload 5, 2) := by decide +kernel
theorem dX12_meets_50 : decode cX12_meets 50 = .ok (.lconst 0, 1) := by decide +kernel
theorem dX12_meets_51 : decode cX12_meets 51 = .ok (.lcmp, 1) := by decide +kernel
theorem dX12_meets_52 : decode cX12_meets 52 = .ok (.ifCond .ge 7, 3) := by decide +kernel
theorem dX12_meets_55 : decode cX12_meets 55 = .ok (.iconst (-1), 1) := by decide +kernel
theorem dX12_meets_56 : decode cX12_meets 56 = .ok (.goto 4, 3) := by decide +kernel
theorem dX12_meets_59 : decode cX12_meets 59 = .ok (.iconst 0, 1) := by decide +kernel
theorem dX12_meets_60 : decode cX12_meets 60 = .ok (.istore 7, 2) := by decide +kernel
theorem dX12_meets_62 : decode cX12_meets 62 = .ok (.iload_n 2, 1) := by decide +kernel
theorem dX12_meets_63 : decode cX12_meets 63 = .ok (.iload 7, 2) := by decide +kernel
theorem dX12_meets_65 : decode cX12_meets 65 = .ok (.iload_n 3, 1) := by decide +kernel
theorem dX12_meets_66 : decode cX12_meets 66 = .ok (.imul, 1) := by decide +kernel
theorem dX12_meets_67 : decode cX12_meets 67 = .ok (.ifCond .ge 7, 3) := by decide +kernel
theorem dX12_meets_70 : decode cX12_meets 70 = .ok (.iconst 1, 1) := by decide +kernel
theorem dX12_meets_71 : decode cX12_meets 71 = .ok (.goto 4, 3) := by decide +kernel
theorem dX12_meets_74 : decode cX12_meets 74 = .ok (.iconst 0, 1) := by decide +kernel
theorem dX12_meets_75 : decode cX12_meets 75 = .ok (.iadd, 1) := by decide +kernel
theorem dX12_meets_76 : decode cX12_meets 76 = .ok (.istore_n 2, 1) := by decide +kernel
theorem dX12_meets_77 : decode cX12_meets 77 = .ok (.iload 7, 2) := by decide +kernel
theorem dX12_meets_79 : decode cX12_meets 79 = .ok (.ifCond .ne 7, 3) := by decide +kernel
theorem dX12_meets_82 : decode cX12_meets 82 = .ok (.iload_n 3, 1) := by decide +kernel
theorem dX12_meets_83 : decode cX12_meets 83 = .ok (.goto 5, 3) := by decide +kernel
theorem dX12_meets_86 : decode cX12_meets 86 = .ok (.iload 7, 2) := by decide +kernel
theorem dX12_meets_88 : decode cX12_meets 88 = .ok (.istore_n 3, 1) := by decide +kernel
theorem dX12_meets_89 : decode cX12_meets 89 = .ok (.iinc 4 1, 3) := by decide +kernel
theorem dX12_meets_92 : decode cX12_meets 92 = .ok (.goto (-73), 3) := by decide +kernel
theorem dX12_meets_95 : decode cX12_meets 95 = .ok (.iload_n 2, 1) := by decide +kernel
theorem dX12_meets_96 : decode cX12_meets 96 = .ok (.ireturn, 1) := by decide +kernel
theorem dX12_square_0 : decode cX12_square 0 = .ok (.iload_n 0, 1) := by decide +kernel
theorem dX12_square_1 : decode cX12_square 1 = .ok (.iload_n 0, 1) := by decide +kernel
theorem dX12_square_2 : decode cX12_square 2 = .ok (.imul, 1) := by decide +kernel
theorem dX12_square_3 : decode cX12_square 3 = .ok (.ireturn, 1) := by decide +kernel
theorem dX12_lengthBits_0 : decode cX12_lengthBits 0 = .ok (.aload_n 0, 1) := by decide +kernel
theorem dX12_lengthBits_1 : decode cX12_lengthBits 1 = .ok (.iload_n 1, 1) := by decide +kernel
theorem dX12_lengthBits_2 : decode cX12_lengthBits 2 = .ok (.invokevirtual 146, 3) := by decide +kernel
theorem dX12_lengthBits_5 : decode cX12_lengthBits 5 = .ok (.ifCond .ne 6, 3) := by decide +kernel
theorem dX12_lengthBits_8 : decode cX12_lengthBits 8 = .ok (.ldc 29, 2) := by decide +kernel
theorem dX12_lengthBits_10 : decode cX12_lengthBits 10 = .ok (.ireturn, 1) := by decide +kernel
theorem dX12_lengthBits_11 : decode cX12_lengthBits 11 = .ok (.iconst 0, 1) := by decide +kernel
theorem dX12_lengthBits_12 : decode cX12_lengthBits 12 = .ok (.istore_n 2, 1) := by decide +kernel
theorem dX12_lengthBits_13 : decode cX12_lengthBits 13 = .ok (.iconst 1, 1) := by decide +kernel
theorem dX12_lengthBits_14 : decode cX12_lengthBits 14 = .ok (.istore_n 3, 1) := by decide +kernel
theorem dX12_lengthBits_15 : decode cX12_lengthBits 15 = .ok (.iload_n 3, 1) := by decide +kernel
theorem dX12_lengthBits_16 : decode cX12_lengthBits 16 = .ok (.aload_n 0, 1) := by decide +kernel
theorem dX12_lengthBits_17 : decode cX12_lengthBits 17 = .ok (.iload_n 1, 1) := by decide +kernel
theorem dX12_lengthBits_18 : decode cX12_lengthBits 18 = .ok (.invokevirtual 80, 3) := by decide +kernel
theorem dX12_lengthBits_21 : decode cX12_lengthBits 21 = .ok (.if_icmp .ge 66, 3) := by decide +kernel
theorem dX12_lengthBits_24 : decode cX12_lengthBits 24 = .ok (.aload_n 0, 1) := by decide +kernel
theorem dX12_lengthBits_25 : decode cX12_lengthBits 25 = .ok (.iload_n 1, 1) := by decide +kernel
theorem dX12_lengthBits_26 : decode cX12_lengthBits 26 = .ok (.iload_n 3, 1) := by decide +kernel
theorem dX12_lengthBits_27 : decode cX12_lengthBits 27 = .ok (.iconst 0, 1) := by decide +kernel
theorem dX12_lengthBits_28 : decode cX12_lengthBits 28 = .ok (.invokevirtual 103, 3) := by decide +kernel
theorem dX12_lengthBits_31 : decode cX12_lengthBits 31 = .ok (.aload_n 0, 1) := by decide +kernel
theorem dX12_lengthBits_32 : decode cX12_lengthBits 32 = .ok (.iload_n 1, 1) := by decide +kernel
theorem dX12_lengthBits_33 : decode cX12_lengthBits 33 = .ok (.iload_n 3, 1) := by decide +kernel
theorem dX12_lengthBits_34 : decode cX12_lengthBits 34 = .ok (.iconst 1, 1) := by decide +kernel
theorem dX12_lengthBits_35 : decode cX12_lengthBits 35 = .ok (.isub, 1) := by decide +kernel
theorem dX12_lengthBits_36 : decode cX12_lengthBits 36 = .ok (.iconst 0, 1) := by decide +kernel
theorem dX12_lengthBits_37 : decode cX12_lengthBits 37 = .ok (.invokevirtual 103, 3) := by decide +kernel
theorem dX12_lengthBits_40 : decode cX12_lengthBits 40 = .ok (.isub, 1) := by decide +kernel
theorem dX12_lengthBits_41 : decode cX12_lengthBits 41 = .ok (.istore 4, 2) := by decide +kernel
theorem dX12_lengthBits_43 : decode cX12_lengthBits 43 = .ok (.aload_n 0, 1) := by decide +kernel
theorem dX12_lengthBits_44 : decode cX12_lengthBits 44 = .ok (.iload_n 1, 1) := by decide +kernel
theorem dX12_lengthBits_45 : decode cX12_lengthBits 45 = .ok (.iload_n 3, 1) := by decide +kernel
theorem dX12_lengthBits_46 : decode cX12_lengthBits 46 = .ok (.iconst 1, 1) := by decide +kernel
theorem dX12_lengthBits_47 : decode cX12_lengthBits 47 = .ok (.invokevirtual 103, 3) := by decide +kernel
theorem dX12_lengthBits_50 : decode cX12_lengthBits 50 = .ok (.aload_n 0, 1) := by decide +kernel
theorem dX12_lengthBits_51 : decode cX12_lengthBits 51 = .ok (.iload_n 1, 1) := by decide +kernel
theorem dX12_lengthBits_52 : decode cX12_lengthBits 52 = .ok (.iload_n 3, 1) := by decide +kernel
theorem dX12_lengthBits_53 : decode cX12_lengthBits 53 = .ok (.iconst 1, 1) := by decide +kernel
theorem dX12_lengthBits_54 : decode cX12_lengthBits 54 = .ok (.isub, 1) := by decide +kernel
theorem dX12_lengthBits_55 : decode cX12_lengthBits 55 = .ok (.iconst 1, 1) := by decide +kernel
theorem dX12_lengthBits_56 : decode cX12_lengthBits 56 = .ok (.invokevirtual 103, 3) := by decide +kernel
theorem dX12_lengthBits_59 : decode cX12_lengthBits 59 = .ok (.isub, 1) := by decide +kernel
theorem dX12_lengthBits_60 : decode cX12_lengthBits 60 = .ok (.istore 5, 2) := by decide +kernel
theorem dX12_lengthBits_62 : decode cX12_lengthBits 62 = .ok (.iload_n 2, 1) := by decide +kernel
theorem dX12_lengthBits_63 : decode cX12_lengthBits 63 = .ok (.iload 4, 2) := by decide +kernel
theorem dX12_lengthBits_65 : decode cX12_lengthBits 65 = .ok (.invokestatic 178, 3) := by decide +kernel
theorem dX12_lengthBits_68 : decode cX12_lengthBits 68 = .ok (.iload 5, 2) := by decide +kernel
theorem dX12_lengthBits_70 : decode cX12_lengthBits 70 = .ok (.invokestatic 178, 3) := by decide +kernel
theorem dX12_lengthBits_73 : decode cX12_lengthBits 73 = .ok (.iadd, 1) := by decide +kernel
theorem dX12_lengthBits_74 : decode cX12_lengthBits 74 = .ok (.i2l, 1) := by decide +kernel
theorem dX12_lengthBits_75 : decode cX12_lengthBits 75 = .ok (.invokestatic 95, 3) := by decide +kernel
theorem dX12_lengthBits_78 : decode cX12_lengthBits 78 = .ok (.l2i, 1) := by decide +kernel
theorem dX12_lengthBits_79 : decode cX12_lengthBits 79 = .ok (.iadd, 1) := by decide +kernel
theorem dX12_lengthBits_80 : decode cX12_lengthBits 80 = .ok (.istore_n 2, 1) := by decide +kernel
theorem dX12_lengthBits_81 : decode cX12_lengthBits 81 = .ok (.iinc 3 1, 3) := by decide +kernel
theorem dX12_lengthBits_84 : decode cX12_lengthBits 84 = .ok (.goto (-69), 3) := by decide +kernel
theorem dX12_lengthBits_87 : decode cX12_lengthBits 87 = .ok (.iload_n 2, 1) := by decide +kernel
theorem dX12_lengthBits_88 : decode cX12_lengthBits 88 = .ok (.i2f, 1) := by decide +kernel
theorem dX12_lengthBits_89 : decode cX12_lengthBits 89 = .ok (.fstore_n 3, 1) := by decide +kernel
theorem dX12_lengthBits_90 : decode cX12_lengthBits 90 = .ok (.fload_n 3, 1) := by decide +kernel
theorem dX12_lengthBits_91 : decode cX12_lengthBits 91 = .ok (.ldc 181, 2) := by decide +kernel
theorem dX12_lengthBits_93 : decode cX12_lengthBits 93 = .ok (.fdiv, 1) := by decide +kernel
theorem dX12_lengthBits_94 : decode cX12_lengthBits 94 = .ok (.invokestatic 182, 3) := by decide +kernel
theorem dX12_lengthBits_97 : decode cX12_lengthBits 97 = .ok (.ireturn, 1) := by decide +kernel
theorem dX12_nearest_0 : decode cX12_nearest 0 = .ok (.aload_n 0, 1) := by decide +kernel
theorem dX12_nearest_1 : decode cX12_nearest 1 = .ok (.iload_n 1, 1) := by decide +kernel
theorem dX12_nearest_2 : decode cX12_nearest 2 = .ok (.invokevirtual 146, 3) := by decide +kernel
theorem dX12_nearest_5 : decode cX12_nearest 5 = .ok (.ifCond .eq 17, 3) := by decide +kernel
theorem dX12_nearest_8 : decode cX12_nearest 8 = .ok (.iload_n 2, 1) := by decide +kernel
theorem dX12_nearest_9 : decode cX12_nearest 9 = .ok (.invokestatic 140, 3) := by decide +kernel
theorem dX12_nearest_12 : decode cX12_nearest 12 = .ok (.ifCond .eq 10, 3) := by decide +kernel
theorem dX12_nearest_15 : decode cX12_nearest 15 = .ok (.iload_n 3, 1) := by decide +kernel
theorem dX12_nearest_16 : decode cX12_nearest 16 = .ok (.invokestatic 140, 3) := by decide +kernel
theorem dX12_nearest_19 : decode cX12_nearest 19 = .ok (.ifCond .ne 6, 3) := by decide +kernel
theorem dX12_nearest_22 : decode cX12_nearest 22 = .ok (.ldc 29, 2) := by decide +kernel
theorem dX12_nearest_24 : decode cX12_nearest 24 = .ok (.ireturn, 1) := by decide +kernel
theorem dX12_nearest_25 : decode cX12_nearest 25 = .ok (.iconst 0, 1) := by decide +kernel
theorem dX12_nearest_26 : decode cX12_nearest 26 = .ok (.istore 4, 2) := by decide +kernel
theorem dX12_nearest_28 : decode cX12_nearest 28 = .ok (.iconst (-1), 1) := by decide +kernel
theorem dX12_nearest_29 : decode cX12_nearest 29 = .ok (.istore 5, 2) := by decide +kernel
theorem dX12_nearest_31 : decode cX12_nearest 31 = .ok (.iconst 0, 1) := by decide +kernel
theorem dX12_nearest_32 : decode cX12_nearest 32 = .ok (.istore 6, 2) := by decide +kernel
theorem dX12_nearest_34 : decode cX12_nearest 34 = .ok (.iload 6, 2) := by decide +kernel
theorem dX12_nearest_36 : decode cX12_nearest 36 = .ok (.aload_n 0, 1) := by decide +kernel
theorem dX12_nearest_37 : decode cX12_nearest 37 = .ok (.iload_n 1, 1) := by decide +kernel
theorem dX12_nearest_38 : decode cX12_nearest 38 = .ok (.invokevirtual 80, 3) := by decide +kernel
theorem dX12_nearest_41 : decode cX12_nearest 41 = .ok (.if_icmp .ge 80, 3) := by decide +kernel
theorem dX12_nearest_44 : decode cX12_nearest 44 = .ok (.aload_n 0, 1) := by decide +kernel
theorem dX12_nearest_45 : decode cX12_nearest 45 = .ok (.iload_n 1, 1) := by decide +kernel
theorem dX12_nearest_46 : decode cX12_nearest 46 = .ok (.iload 6, 2) := by decide +kernel
theorem dX12_nearest_48 : decode cX12_nearest 48 = .ok (.iconst 0, 1) := by decide +kernel
theorem dX12_nearest_49 : decode cX12_nearest 49 = .ok (.invokevirtual 103, 3) := by decide +kernel
theorem dX12_nearest_52 : decode cX12_nearest 52 = .ok (.iload_n 2, 1) := by decide +kernel
theorem dX12_nearest_53 : decode cX12_nearest 53 = .ok (.isub, 1) := by decide +kernel
theorem dX12_nearest_54 : decode cX12_nearest 54 = .ok (.invokestatic 178, 3) := by decide +kernel
theorem dX12_nearest_57 : decode cX12_nearest 57 = .ok (.aload_n 0, 1) := by decide +kernel
theorem dX12_nearest_58 : decode cX12_nearest 58 = .ok (.iload_n 1, 1) := by decide +kernel
theorem dX12_nearest_59 : decode cX12_nearest 59 = .ok (.iload 6, 2) := by decide +kernel
theorem dX12_nearest_61 : decode cX12_nearest 61 = .ok (.iconst 1, 1) := by decide +kernel
theorem dX12_nearest_62 : decode cX12_nearest 62 = .ok (.invokevirtual 103, 3) := by decide +kernel
theorem dX12_nearest_65 : decode cX12_nearest 65 = .ok (.iload_n 3, 1) := by decide +kernel
theorem dX12_nearest_66 : decode cX12_nearest 66 = .ok (.isub, 1) := by decide +kernel
theorem dX12_nearest_67 : decode cX12_nearest 67 = .ok (.invokestatic 178, 3) := by decide +kernel
theorem dX12_nearest_70 : decode cX12_nearest 70 = .ok (.iadd, 1) := by decide +kernel
theorem dX12_nearest_71 : decode cX12_nearest 71 = .ok (.istore 7, 2) := by decide +kernel
theorem dX12_nearest_73 : decode cX12_nearest 73 = .ok (.iload 5, 2) := by decide +kernel
theorem dX12_nearest_75 : decode cX12_nearest 75 = .ok (.ifCond .lt 10, 3) := by decide +kernel
theorem dX12_nearest_78 : decode cX12_nearest 78 = .ok (.iload 7, 2) := by decide +kernel
theorem dX12_nearest_80 : decode cX12_nearest 80 = .ok (.iload 5, 2) := by decide +kernel
theorem dX12_nearest_82 : decode cX12_nearest 82 = .ok (.if_icmp .ge 8, 3) := by decide +kernel
theorem dX12_nearest_85 : decode cX12_nearest 85 = .ok (.iload 6, 2) := by decide +kernel
theorem dX12_nearest_87 : decode cX12_nearest 87 = .ok (.goto 5, 3) := by decide +kernel
theorem dX12_nearest_90 : decode cX12_nearest 90 = .ok (.iload 4, 2) := by decide +kernel
theorem dX12_nearest_92 : decode cX12_nearest 92 = .ok (.istore 4, 2) := by decide +kernel
theorem dX12_nearest_94 : decode cX12_nearest 94 = .ok (.iload 5, 2) := by decide +kernel
theorem dX12_nearest_96 : decode cX12_nearest 96 = .ok (.ifCond .lt 10, 3) := by decide +kernel
theorem dX12_nearest_99 : decode cX12_nearest 99 = .ok (.iload 7, 2) := by decide +kernel
theorem dX12_nearest_101 : decode cX12_nearest 101 = .ok (.iload 5, 2) := by decide +kernel
theorem dX12_nearest_103 : decode cX12_nearest 103 = .ok (.if_icmp .ge 8, 3) := by decide +kernel
theorem dX12_nearest_106 : decode cX12_nearest 106 = .ok (.iload 7, 2) := by decide +kernel
theorem dX12_nearest_108 : decode cX12_nearest 108 = .ok (.goto 5, 3) := by decide +kernel
theorem dX12_nearest_111 : decode cX12_nearest 111 = .ok (.iload 5, 2) := by decide +kernel
theorem dX12_nearest_113 : decode cX12_nearest 113 = .ok (.istore 5, 2) := by decide +kernel
theorem dX12_nearest_115 : decode cX12_nearest 115 = .ok (.iinc 6 1, 3) := by decide +kernel
theorem dX12_nearest_118 : decode cX12_nearest 118 = .ok (.goto (-84), 3) := by decide +kernel
theorem dX12_nearest_121 : decode cX12_nearest 121 = .ok (.iload 4, 2) := by decide +kernel
theorem dX12_nearest_123 : decode cX12_nearest 123 = .ok (.ireturn, 1) := by decide +kernel
theorem dX12_undo_0 : decode cX12_undo 0 = .ok (.aload_n 0, 1) := by decide +kernel
theorem dX12_undo_1 : decode cX12_undo 1 = .ok (.getfield 33, 3) := by decide +kernel
theorem dX12_undo_4 : decode cX12_undo 4 = .ok (.ifCond .ne 6, 3) := by decide +kernel
theorem dX12_undo_7 : decode cX12_undo 7 = .ok (.ldc 116, 2) := by decide +kernel
theorem dX12_undo_9 : decode cX12_undo 9 = .ok (.ireturn, 1) := by decide +kernel
theorem dX12_undo_10 : decode cX12_undo 10 = .ok (.aload_n 0, 1) := by decide +kernel
theorem dX12_undo_11 : decode cX12_undo 11 = .ok (.dup, 1) := by decide +kernel
theorem dX12_undo_12 : decode cX12_undo 12 = .ok (.getfield 33, 3) := by decide +kernel
theorem dX12_undo_15 : decode cX12_undo 15 = .ok (.iconst 1, 1) := by decide +kernel
theorem dX12_undo_16 : decode cX12_undo 16 = .ok (.isub, 1) := by decide +kernel
theorem dX12_undo_17 : decode cX12_undo 17 = .ok (.putfield 33, 3) := by decide +kernel
theorem dX12_undo_20 : decode cX12_undo 20 = .ok (.iconst 0, 1) := by decide +kernel
theorem dX12_undo_21 : decode cX12_undo 21 = .ok (.istore_n 1, 1) := by decide +kernel
theorem dX12_undo_22 : decode cX12_undo 22 = .ok (.iload_n 1, 1) := by decide +kernel
theorem dX12_undo_23 : decode cX12_undo 23 = .ok (.sipush 853, 3) := by decide +kernel
theorem dX12_undo_26 : decode cX12_undo 26 = .ok (.if_icmp .ge 30, 3) := by decide +kernel
theorem dX12_undo_29 : decode cX12_undo 29 = .ok (.aload_n 0, 1) := by decide +kernel
theorem dX12_undo_30 : decode cX12_undo 30 = .ok (.getfield 7, 3) := by decide +kernel
theorem dX12_undo_33 : decode cX12_undo 33 = .ok (.iload_n 1, 1) := by decide +kernel
theorem dX12_undo_34 : decode cX12_undo 34 = .ok (.aload_n 0, 1) := by decide +kernel
theorem dX12_undo_35 : decode cX12_undo 35 = .ok (.getfield 16, 3) := by decide +kernel
theorem dX12_undo_38 : decode cX12_undo 38 = .ok (.sipush 853, 3) := by decide +kernel
theorem dX12_undo_41 : decode cX12_undo 41 = .ok (.aload_n 0, 1) := by decide +kernel
theorem dX12_undo_42 : decode cX12_undo 42 = .ok (.getfield 33, 3) := by decide +kernel
theorem dX12_undo_45 : decode cX12_undo 45 = .ok (.imul, 1) := by decide +kernel
theorem dX12_undo_46 : decode cX12_undo 46 = .ok (.iload_n 1, 1) := by decide +kernel
theorem dX12_undo_47 : decode cX12_undo 47 = .ok (.iadd, 1) := by decide +kernel
theorem dX12_undo_48 : decode cX12_undo 48 = .ok (.iaload, 1) := by decide +kernel
theorem dX12_undo_49 : decode cX12_undo 49 = .ok (.iastore, 1) := by decide +kernel
theorem dX12_undo_50 : decode cX12_undo 50 = .ok (.iinc 1 1, 3) := by decide +kernel
theorem dX12_undo_53 : decode cX12_undo 53 = .ok (.goto (-31), 3) := by decide +kernel
theorem dX12_undo_56 : decode cX12_undo 56 = .ok (.aload_n 0, 1) := by decide +kernel
theorem dX12_undo_57 : decode cX12_undo 57 = .ok (.getfield 33, 3) := by decide +kernel
theorem dX12_undo_60 : decode cX12_undo 60 = .ok (.ireturn, 1) := by decide +kernel
theorem dX12_type_0 : decode cX12_type 0 = .ok (.iload_n 1, 1) := by decide +kernel
theorem dX12_type_1 : decode cX12_type 1 = .ok (.bipush 32, 2) := by decide +kernel
theorem dX12_type_3 : decode cX12_type 3 = .ok (.bipush 126, 2) := by decide +kernel
theorem dX12_type_5 : decode cX12_type 5 = .ok (.invokestatic 25, 3) := by decide +kernel
theorem dX12_type_8 : decode cX12_type 8 = .ok (.ifCond .ne 6, 3) := by decide +kernel
theorem dX12_type_11 : decode cX12_type 11 = .ok (.ldc 29, 2) := by decide +kernel
theorem dX12_type_13 : decode cX12_type 13 = .ok (.ireturn, 1) := by decide +kernel
theorem dX12_type_14 : decode cX12_type 14 = .ok (.aload_n 0, 1) := by decide +kernel
theorem dX12_type_15 : decode cX12_type 15 = .ok (.getfield 175, 3) := by decide +kernel
theorem dX12_type_18 : decode cX12_type 18 = .ok (.bipush 60, 2) := by decide +kernel
theorem dX12_type_20 : decode cX12_type 20 = .ok (.if_icmp .ne 6, 3) := by decide +kernel
theorem dX12_type_23 : decode cX12_type 23 = .ok (.ldc 83, 2) := by decide +kernel
theorem dX12_type_25 : decode cX12_type 25 = .ok (.ireturn, 1) := by decide +kernel
theorem dX12_type_26 : decode cX12_type 26 = .ok (.aload_n 0, 1) := by decide +kernel
theorem dX12_type_27 : decode cX12_type 27 = .ok (.getfield 19, 3) := by decide +kernel
theorem dX12_type_30 : decode cX12_type 30 = .ok (.aload_n 0, 1) := by decide +kernel
theorem dX12_type_31 : decode cX12_type 31 = .ok (.getfield 175, 3) := by decide +kernel
theorem dX12_type_34 : decode cX12_type 34 = .ok (.iload_n 1, 1) := by decide +kernel
theorem dX12_type_35 : decode cX12_type 35 = .ok (.iastore, 1) := by decide +kernel
theorem dX12_type_36 : decode cX12_type 36 = .ok (.aload_n 0, 1) := by decide +kernel
theorem dX12_type_37 : decode cX12_type 37 = .ok (.dup, 1) := by decide +kernel
theorem dX12_type_38 : decode cX12_type 38 = .ok (.getfield 175, 3) := by decide +kernel
theorem dX12_type_41 : decode cX12_type 41 = .ok (.iconst 1, 1) := by decide +kernel
theorem dX12_type_42 : decode cX12_type 42 = .ok (.iadd, 1) := by decide +kernel
theorem dX12_type_43 : decode cX12_type 43 = .ok (.putfield 175, 3) := by decide +kernel
theorem dX12_type_46 : decode cX12_type 46 = .ok (.aload_n 0, 1) := by decide +kernel
theorem dX12_type_47 : decode cX12_type 47 = .ok (.getfield 175, 3) := by decide +kernel
theorem dX12_type_50 : decode cX12_type 50 = .ok (.ireturn, 1) := by decide +kernel
theorem dX12_clearText_0 : decode cX12_clearText 0 = .ok (.aload_n 0, 1) := by decide +kernel
theorem dX12_clearText_1 : decode cX12_clearText 1 = .ok (.getfield 175, 3) := by decide +kernel
theorem dX12_clearText_4 : decode cX12_clearText 4 = .ok (.istore_n 1, 1) := by decide +kernel
theorem dX12_clearText_5 : decode cX12_clearText 5 = .ok (.aload_n 0, 1) := by decide +kernel
theorem dX12_clearText_6 : decode cX12_clearText 6 = .ok (.iconst 0, 1) := by decide +kernel
theorem dX12_clearText_7 : decode cX12_clearText 7 = .ok (.putfield 175, 3) := by decide +kernel
theorem dX12_clearText_10 : decode cX12_clearText 10 = .ok (.iload_n 1, 1) := by decide +kernel
theorem dX12_clearText_11 : decode cX12_clearText 11 = .ok (.ireturn, 1) := by decide +kernel
theorem dX12_sees_0 : decode cX12_sees 0 = .ok (.aload_n 0, 1) := by decide +kernel
theorem dX12_sees_1 : decode cX12_sees 1 = .ok (.getfield 188, 3) := by decide +kernel
theorem dX12_sees_4 : decode cX12_sees 4 = .ok (.aload_n 0, 1) := by decide +kernel
theorem dX12_sees_5 : decode cX12_sees 5 = .ok (.getfield 175, 3) := by decide +kernel
theorem dX12_sees_8 : decode cX12_sees 8 = .ok (.if_icmp .ge 33, 3) := by decide +kernel
theorem dX12_sees_11 : decode cX12_sees 11 = .ok (.aload_n 0, 1) := by decide +kernel
theorem dX12_sees_12 : decode cX12_sees 12 = .ok (.getfield 19, 3) := by decide +kernel
theorem dX12_sees_15 : decode cX12_sees 15 = .ok (.aload_n 0, 1) := by decide +kernel
theorem dX12_sees_16 : decode cX12_sees 16 = .ok (.getfield 188, 3) := by decide +kernel
theorem dX12_sees_19 : decode cX12_sees 19 = .ok (.iaload, 1) := by decide +kernel
theorem dX12_sees_20 : decode cX12_sees 20 = .ok (.iload_n 1, 1) := by decide +kernel
theorem dX12_sees_21 : decode cX12_sees 21 = .ok (.if_icmp .eq 16, 3) := by decide +kernel
theorem dX12_sees_24 : decode cX12_sees 24 = .ok (.aload_n 0, 1) := by decide +kernel
theorem dX12_sees_25 : decode cX12_sees 25 = .ok (.getfield 19, 3) := by decide +kernel
theorem dX12_sees_28 : decode cX12_sees 28 = .ok (.aload_n 0, 1) := by decide +kernel
theorem dX12_sees_29 : decode cX12_sees 29 = .ok (.getfield 188, 3) := by decide +kernel
theorem dX12_sees_32 : decode cX12_sees 32 = .ok (.iaload, 1) := by decide +kernel
theorem dX12_sees_33 : decode cX12_sees 33 = .ok (.iload_n 2, 1) := by decide +kernel
theorem dX12_sees_34 : decode cX12_sees 34 = .ok (.if_icmp .ne 7, 3) := by decide +kernel
theorem dX12_sees_37 : decode cX12_sees 37 = .ok (.iconst 1, 1) := by decide +kernel
theorem dX12_sees_38 : decode cX12_sees 38 = .ok (.goto 4, 3) := by decide +kernel
theorem dX12_sees_41 : decode cX12_sees 41 = .ok (.iconst 0, 1) := by decide +kernel
theorem dX12_sees_42 : decode cX12_sees 42 = .ok (.ireturn, 1) := by decide +kernel
theorem dX12_readsTerm_0 : decode cX12_readsTerm 0 = .ok (.aload_n 0, 1) := by decide +kernel
theorem dX12_readsTerm_1 : decode cX12_readsTerm 1 = .ok (.getfield 188, 3) := by decide +kernel
theorem dX12_readsTerm_4 : decode cX12_readsTerm 4 = .ok (.aload_n 0, 1) := by decide +kernel
theorem dX12_readsTerm_5 : decode cX12_readsTerm 5 = .ok (.getfield 175, 3) := by decide +kernel
theorem dX12_readsTerm_8 : decode cX12_readsTerm 8 = .ok (.if_icmp .ge 26, 3) := by decide +kernel
theorem dX12_readsTerm_11 : decode cX12_readsTerm 11 = .ok (.aload_n 0, 1) := by decide +kernel
theorem dX12_readsTerm_12 : decode cX12_readsTerm 12 = .ok (.getfield 19, 3) := by decide +kernel
end
section
theorem dX12_readsTerm_15 : decode cX12_readsTerm 15 = .ok (.aload_n 0, 1) := by decide +kernel
theorem dX12_readsTerm_16 : decode cX12_readsTerm 16 = .ok (.getfield 188, 3) := by decide +kernel
theorem dX12_readsTerm_19 : decode cX12_readsTerm 19 = .ok (.iaload, 1) := by decide +kernel
theorem dX12_readsTerm_20 : decode cX12_readsTerm 20 = .ok (.bipush 49, 2) := by decide +kernel
theorem dX12_readsTerm_22 : decode cX12_readsTerm 22 = .ok (.bipush 53, 2) := by decide +kernel
theorem dX12_readsTerm_24 : decode cX12_readsTerm 24 = .ok (.invokestatic 25, 3) := by decide +kernel
theorem dX12_readsTerm_27 : decode cX12_readsTerm 27 = .ok (.ifCond .eq 7, 3) := by decide +kernel
theorem dX12_readsTerm_30 : decode cX12_readsTerm 30 = .ok (.iconst 1, 1) := by decide +kernel
theorem dX12_readsTerm_31 : decode cX12_readsTerm 31 = .ok (.goto 4, 3) := by decide +kernel
theorem dX12_readsTerm_34 : decode cX12_readsTerm 34 = .ok (.iconst 0, 1) := by decide +kernel
theorem dX12_readsTerm_35 : decode cX12_readsTerm 35 = .ok (.istore_n 2, 1) := by decide +kernel
theorem dX12_readsTerm_36 : decode cX12_readsTerm 36 = .ok (.iload_n 2, 1) := by decide +kernel
theorem dX12_readsTerm_37 : decode cX12_readsTerm 37 = .ok (.ifCond .eq 18, 3) := by decide +kernel
theorem dX12_readsTerm_40 : decode cX12_readsTerm 40 = .ok (.aload_n 0, 1) := by decide +kernel
theorem dX12_readsTerm_41 : decode cX12_readsTerm 41 = .ok (.getfield 19, 3) := by decide +kernel
theorem dX12_readsTerm_44 : decode cX12_readsTerm 44 = .ok (.aload_n 0, 1) := by decide +kernel
theorem dX12_readsTerm_45 : decode cX12_readsTerm 45 = .ok (.getfield 188, 3) := by decide +kernel
theorem dX12_readsTerm_48 : decode cX12_readsTerm 48 = .ok (.iaload, 1) := by decide +kernel
theorem dX12_readsTerm_49 : decode cX12_readsTerm 49 = .ok (.bipush 48, 2) := by decide +kernel
theorem dX12_readsTerm_51 : decode cX12_readsTerm 51 = .ok (.isub, 1) := by decide +kernel
theorem dX12_readsTerm_52 : decode cX12_readsTerm 52 = .ok (.goto 4, 3) := by decide +kernel
theorem dX12_readsTerm_55 : decode cX12_readsTerm 55 = .ok (.iconst 1, 1) := by decide +kernel
theorem dX12_readsTerm_56 : decode cX12_readsTerm 56 = .ok (.istore_n 3, 1) := by decide +kernel
theorem dX12_readsTerm_57 : decode cX12_readsTerm 57 = .ok (.aload_n 0, 1) := by decide +kernel
theorem dX12_readsTerm_58 : decode cX12_readsTerm 58 = .ok (.dup, 1) := by decide +kernel
theorem dX12_readsTerm_59 : decode cX12_readsTerm 59 = .ok (.getfield 188, 3) := by decide +kernel
theorem dX12_readsTerm_62 : decode cX12_readsTerm 62 = .ok (.iload_n 2, 1) := by decide +kernel
theorem dX12_readsTerm_63 : decode cX12_readsTerm 63 = .ok (.ifCond .eq 7, 3) := by decide +kernel
theorem dX12_readsTerm_66 : decode cX12_readsTerm 66 = .ok (.iconst 1, 1) := by decide +kernel
theorem dX12_readsTerm_67 : decode cX12_readsTerm 67 = .ok (.goto 4, 3) := by decide +kernel
theorem dX12_readsTerm_70 : decode cX12_readsTerm 70 = .ok (.iconst 0, 1) := by decide +kernel
theorem dX12_readsTerm_71 : decode cX12_readsTerm 71 = .ok (.iadd, 1) := by decide +kernel
theorem dX12_readsTerm_72 : decode cX12_readsTerm 72 = .ok (.putfield 188, 3) := by decide +kernel
theorem dX12_readsTerm_75 : decode cX12_readsTerm 75 = .ok (.iconst 0, 1) := by decide +kernel
theorem dX12_readsTerm_76 : decode cX12_readsTerm 76 = .ok (.istore 4, 2) := by decide +kernel
theorem dX12_readsTerm_78 : decode cX12_readsTerm 78 = .ok (.iconst 0, 1) := by decide +kernel
theorem dX12_readsTerm_79 : decode cX12_readsTerm 79 = .ok (.istore 5, 2) := by decide +kernel
theorem dX12_readsTerm_81 : decode cX12_readsTerm 81 = .ok (.aload_n 0, 1) := by decide +kernel
theorem dX12_readsTerm_82 : decode cX12_readsTerm 82 = .ok (.bipush 120, 2) := by decide +kernel
theorem dX12_readsTerm_84 : decode cX12_readsTerm 84 = .ok (.bipush 121, 2) := by decide +kernel
theorem dX12_readsTerm_86 : decode cX12_readsTerm 86 = .ok (.invokevirtual 191, 3) := by decide +kernel
theorem dX12_readsTerm_89 : decode cX12_readsTerm 89 = .ok (.ifCond .eq 73, 3) := by decide +kernel
theorem dX12_readsTerm_92 : decode cX12_readsTerm 92 = .ok (.iload 4, 2) := by decide +kernel
theorem dX12_readsTerm_94 : decode cX12_readsTerm 94 = .ok (.iload 5, 2) := by decide +kernel
theorem dX12_readsTerm_96 : decode cX12_readsTerm 96 = .ok (.iadd, 1) := by decide +kernel
theorem dX12_readsTerm_97 : decode cX12_readsTerm 97 = .ok (.iconst 3, 1) := by decide +kernel
theorem dX12_readsTerm_98 : decode cX12_readsTerm 98 = .ok (.if_icmp .ge 64, 3) := by decide +kernel
theorem dX12_readsTerm_101 : decode cX12_readsTerm 101 = .ok (.iload 4, 2) := by decide +kernel
theorem dX12_readsTerm_103 : decode cX12_readsTerm 103 = .ok (.aload_n 0, 1) := by decide +kernel
theorem dX12_readsTerm_104 : decode cX12_readsTerm 104 = .ok (.getfield 19, 3) := by decide +kernel
theorem dX12_readsTerm_107 : decode cX12_readsTerm 107 = .ok (.aload_n 0, 1) := by decide +kernel
theorem dX12_readsTerm_108 : decode cX12_readsTerm 108 = .ok (.getfield 188, 3) := by decide +kernel
theorem dX12_readsTerm_111 : decode cX12_readsTerm 111 = .ok (.iaload, 1) := by decide +kernel
theorem dX12_readsTerm_112 : decode cX12_readsTerm 112 = .ok (.bipush 120, 2) := by decide +kernel
theorem dX12_readsTerm_114 : decode cX12_readsTerm 114 = .ok (.if_icmp .ne 7, 3) := by decide +kernel
theorem dX12_readsTerm_117 : decode cX12_readsTerm 117 = .ok (.iconst 1, 1) := by decide +kernel
theorem dX12_readsTerm_118 : decode cX12_readsTerm 118 = .ok (.goto 4, 3) := by decide +kernel
theorem dX12_readsTerm_121 : decode cX12_readsTerm 121 = .ok (.iconst 0, 1) := by decide +kernel
theorem dX12_readsTerm_122 : decode cX12_readsTerm 122 = .ok (.iadd, 1) := by decide +kernel
theorem dX12_readsTerm_123 : decode cX12_readsTerm 123 = .ok (.istore 4, 2) := by decide +kernel
theorem dX12_readsTerm_125 : decode cX12_readsTerm 125 = .ok (.iload 5, 2) := by decide +kernel
theorem dX12_readsTerm_127 : decode cX12_readsTerm 127 = .ok (.aload_n 0, 1) := by decide +kernel
theorem dX12_readsTerm_128 : decode cX12_readsTerm 128 = .ok (.getfield 19, 3) := by decide +kernel
theorem dX12_readsTerm_131 : decode cX12_readsTerm 131 = .ok (.aload_n 0, 1) := by decide +kernel
theorem dX12_readsTerm_132 : decode cX12_readsTerm 132 = .ok (.getfield 188, 3) := by decide +kernel
theorem dX12_readsTerm_135 : decode cX12_readsTerm 135 = .ok (.iaload, 1) := by decide +kernel
theorem dX12_readsTerm_136 : decode cX12_readsTerm 136 = .ok (.bipush 121, 2) := by decide +kernel
theorem dX12_readsTerm_138 : decode cX12_readsTerm 138 = .ok (.if_icmp .ne 7, 3) := by decide +kernel
theorem dX12_readsTerm_141 : decode cX12_readsTerm 141 = .ok (.iconst 1, 1) := by decide +kernel
theorem dX12_readsTerm_142 : decode cX12_readsTerm 142 = .ok (.goto 4, 3) := by decide +kernel
theorem dX12_readsTerm_145 : decode cX12_readsTerm 145 = .ok (.iconst 0, 1) := by decide +kernel
theorem dX12_readsTerm_146 : decode cX12_readsTerm 146 = .ok (.iadd, 1) := by decide +kernel
theorem dX12_readsTerm_147 : decode cX12_readsTerm 147 = .ok (.istore 5, 2) := by decide +kernel
theorem dX12_readsTerm_149 : decode cX12_readsTerm 149 = .ok (.aload_n 0, 1) := by decide +kernel
theorem dX12_readsTerm_150 : decode cX12_readsTerm 150 = .ok (.dup, 1) := by decide +kernel
theorem dX12_readsTerm_151 : decode cX12_readsTerm 151 = .ok (.getfield 188, 3) := by decide +kernel
theorem dX12_readsTerm_154 : decode cX12_readsTerm 154 = .ok (.iconst 1, 1) := by decide +kernel
theorem dX12_readsTerm_155 : decode cX12_readsTerm 155 = .ok (.iadd, 1) := by decide +kernel
theorem dX12_readsTerm_156 : decode cX12_readsTerm 156 = .ok (.putfield 188, 3) := by decide +kernel
theorem dX12_readsTerm_159 : decode cX12_readsTerm 159 = .ok (.goto (-78), 3) := by decide +kernel
theorem dX12_readsTerm_162 : decode cX12_readsTerm 162 = .ok (.aload_n 0, 1) := by decide +kernel
theorem dX12_readsTerm_163 : decode cX12_readsTerm 163 = .ok (.aload_n 0, 1) := by decide +kernel
theorem dX12_readsTerm_164 : decode cX12_readsTerm 164 = .ok (.bipush 120, 2) := by decide +kernel
theorem dX12_readsTerm_166 : decode cX12_readsTerm 166 = .ok (.bipush 121, 2) := by decide +kernel
theorem dX12_readsTerm_168 : decode cX12_readsTerm 168 = .ok (.invokevirtual 191, 3) := by decide +kernel
theorem dX12_readsTerm_171 : decode cX12_readsTerm 171 = .ok (.ifCond .eq 7, 3) := by decide +kernel
theorem dX12_readsTerm_174 : decode cX12_readsTerm 174 = .ok (.iconst 2, 1) := by decide +kernel
theorem dX12_readsTerm_175 : decode cX12_readsTerm 175 = .ok (.goto 4, 3) := by decide +kernel
theorem dX12_readsTerm_178 : decode cX12_readsTerm 178 = .ok (.iconst 1, 1) := by decide +kernel
theorem dX12_readsTerm_179 : decode cX12_readsTerm 179 = .ok (.putfield 194, 3) := by decide +kernel
theorem dX12_readsTerm_182 : decode cX12_readsTerm 182 = .ok (.aload_n 0, 1) := by decide +kernel
theorem dX12_readsTerm_183 : decode cX12_readsTerm 183 = .ok (.iload_n 1, 1) := by decide +kernel
theorem dX12_readsTerm_184 : decode cX12_readsTerm 184 = .ok (.iload_n 3, 1) := by decide +kernel
theorem dX12_readsTerm_185 : decode cX12_readsTerm 185 = .ok (.imul, 1) := by decide +kernel
theorem dX12_readsTerm_186 : decode cX12_readsTerm 186 = .ok (.iload 4, 2) := by decide +kernel
theorem dX12_readsTerm_188 : decode cX12_readsTerm 188 = .ok (.iload 5, 2) := by decide +kernel
theorem dX12_readsTerm_190 : decode cX12_readsTerm 190 = .ok (.invokevirtual 131, 3) := by decide +kernel
theorem dX12_readsTerm_193 : decode cX12_readsTerm 193 = .ok (.istore 6, 2) := by decide +kernel
theorem dX12_readsTerm_195 : decode cX12_readsTerm 195 = .ok (.aload_n 0, 1) := by decide +kernel
theorem dX12_readsTerm_196 : decode cX12_readsTerm 196 = .ok (.getfield 194, 3) := by decide +kernel
theorem dX12_readsTerm_199 : decode cX12_readsTerm 199 = .ok (.iconst 1, 1) := by decide +kernel
theorem dX12_readsTerm_200 : decode cX12_readsTerm 200 = .ok (.if_icmp .ne 19, 3) := by decide +kernel
theorem dX12_readsTerm_203 : decode cX12_readsTerm 203 = .ok (.iload_n 2, 1) := by decide +kernel
theorem dX12_readsTerm_204 : decode cX12_readsTerm 204 = .ok (.ifCond .ne 11, 3) := by decide +kernel
theorem dX12_readsTerm_207 : decode cX12_readsTerm 207 = .ok (.iload 4, 2) := by decide +kernel
theorem dX12_readsTerm_209 : decode cX12_readsTerm 209 = .ok (.iload 5, 2) := by decide +kernel
theorem dX12_readsTerm_211 : decode cX12_readsTerm 211 = .ok (.iadd, 1) := by decide +kernel
theorem dX12_readsTerm_212 : decode cX12_readsTerm 212 = .ok (.ifCond .le 7, 3) := by decide +kernel
theorem dX12_readsTerm_215 : decode cX12_readsTerm 215 = .ok (.iconst 1, 1) := by decide +kernel
theorem dX12_readsTerm_216 : decode cX12_readsTerm 216 = .ok (.goto 4, 3) := by decide +kernel
theorem dX12_readsTerm_219 : decode cX12_readsTerm 219 = .ok (.iconst 0, 1) := by decide +kernel
theorem dX12_readsTerm_220 : decode cX12_readsTerm 220 = .ok (.ireturn, 1) := by decide +kernel
theorem dX12_reads_0 : decode cX12_reads 0 = .ok (.aload_n 0, 1) := by decide +kernel
theorem dX12_reads_1 : decode cX12_reads 1 = .ok (.iconst 0, 1) := by decide +kernel
theorem dX12_reads_2 : decode cX12_reads 2 = .ok (.putfield 188, 3) := by decide +kernel
theorem dX12_reads_5 : decode cX12_reads 5 = .ok (.aload_n 0, 1) := by decide +kernel
theorem dX12_reads_6 : decode cX12_reads 6 = .ok (.iconst 1, 1) := by decide +kernel
theorem dX12_reads_7 : decode cX12_reads 7 = .ok (.putfield 194, 3) := by decide +kernel
theorem dX12_reads_10 : decode cX12_reads 10 = .ok (.aload_n 0, 1) := by decide +kernel
theorem dX12_reads_11 : decode cX12_reads 11 = .ok (.getfield 7, 3) := by decide +kernel
theorem dX12_reads_14 : decode cX12_reads 14 = .ok (.iconst 0, 1) := by decide +kernel
theorem dX12_reads_15 : decode cX12_reads 15 = .ok (.iconst 0, 1) := by decide +kernel
theorem dX12_reads_16 : decode cX12_reads 16 = .ok (.iastore, 1) := by decide +kernel
theorem dX12_reads_17 : decode cX12_reads 17 = .ok (.aload_n 0, 1) := by decide +kernel
theorem dX12_reads_18 : decode cX12_reads 18 = .ok (.getfield 7, 3) := by decide +kernel
theorem dX12_reads_21 : decode cX12_reads 21 = .ok (.iconst 1, 1) := by decide +kernel
theorem dX12_reads_22 : decode cX12_reads 22 = .ok (.iconst 0, 1) := by decide +kernel
theorem dX12_reads_23 : decode cX12_reads 23 = .ok (.iastore, 1) := by decide +kernel
theorem dX12_reads_24 : decode cX12_reads 24 = .ok (.aload_n 0, 1) := by decide +kernel
theorem dX12_reads_25 : decode cX12_reads 25 = .ok (.bipush 45, 2) := by decide +kernel
theorem dX12_reads_27 : decode cX12_reads 27 = .ok (.bipush 45, 2) := by decide +kernel
theorem dX12_reads_29 : decode cX12_reads 29 = .ok (.invokevirtual 191, 3) := by decide +kernel
theorem dX12_reads_32 : decode cX12_reads 32 = .ok (.ifCond .eq 7, 3) := by decide +kernel
theorem dX12_reads_35 : decode cX12_reads 35 = .ok (.iconst (-1), 1) := by decide +kernel
theorem dX12_reads_36 : decode cX12_reads 36 = .ok (.goto 4, 3) := by decide +kernel
theorem dX12_reads_39 : decode cX12_reads 39 = .ok (.iconst 1, 1) := by decide +kernel
theorem dX12_reads_40 : decode cX12_reads 40 = .ok (.istore_n 1, 1) := by decide +kernel
theorem dX12_reads_41 : decode cX12_reads 41 = .ok (.aload_n 0, 1) := by decide +kernel
theorem dX12_reads_42 : decode cX12_reads 42 = .ok (.dup, 1) := by decide +kernel
theorem dX12_reads_43 : decode cX12_reads 43 = .ok (.getfield 188, 3) := by decide +kernel
theorem dX12_reads_46 : decode cX12_reads 46 = .ok (.iload_n 1, 1) := by decide +kernel
theorem dX12_reads_47 : decode cX12_reads 47 = .ok (.ifCond .ge 7, 3) := by decide +kernel
theorem dX12_reads_50 : decode cX12_reads 50 = .ok (.iconst 1, 1) := by decide +kernel
theorem dX12_reads_51 : decode cX12_reads 51 = .ok (.goto 4, 3) := by decide +kernel
theorem dX12_reads_54 : decode cX12_reads 54 = .ok (.iconst 0, 1) := by decide +kernel
theorem dX12_reads_55 : decode cX12_reads 55 = .ok (.iadd, 1) := by decide +kernel
theorem dX12_reads_56 : decode cX12_reads 56 = .ok (.putfield 188, 3) := by decide +kernel
theorem dX12_reads_59 : decode cX12_reads 59 = .ok (.aload_n 0, 1) := by decide +kernel
theorem dX12_reads_60 : decode cX12_reads 60 = .ok (.iload_n 1, 1) := by decide +kernel
theorem dX12_reads_61 : decode cX12_reads 61 = .ok (.invokevirtual 197, 3) := by decide +kernel
theorem dX12_reads_64 : decode cX12_reads 64 = .ok (.istore_n 2, 1) := by decide +kernel
theorem dX12_reads_65 : decode cX12_reads 65 = .ok (.iload_n 2, 1) := by decide +kernel
theorem dX12_reads_66 : decode cX12_reads 66 = .ok (.ifCond .eq 71, 3) := by decide +kernel
theorem dX12_reads_69 : decode cX12_reads 69 = .ok (.aload_n 0, 1) := by decide +kernel
theorem dX12_reads_70 : decode cX12_reads 70 = .ok (.bipush 43, 2) := by decide +kernel
theorem dX12_reads_72 : decode cX12_reads 72 = .ok (.bipush 45, 2) := by decide +kernel
theorem dX12_reads_74 : decode cX12_reads 74 = .ok (.invokevirtual 191, 3) := by decide +kernel
theorem dX12_reads_77 : decode cX12_reads 77 = .ok (.ifCond .eq 60, 3) := by decide +kernel
theorem dX12_reads_80 : decode cX12_reads 80 = .ok (.aload_n 0, 1) := by decide +kernel
theorem dX12_reads_81 : decode cX12_reads 81 = .ok (.getfield 7, 3) := by decide +kernel
theorem dX12_reads_84 : decode cX12_reads 84 = .ok (.iconst 0, 1) := by decide +kernel
theorem dX12_reads_85 : decode cX12_reads 85 = .ok (.iaload, 1) := by decide +kernel
theorem dX12_reads_86 : decode cX12_reads 86 = .ok (.bipush 6, 2) := by decide +kernel
theorem dX12_reads_88 : decode cX12_reads 88 = .ok (.if_icmp .ne 10, 3) := by decide +kernel
theorem dX12_reads_91 : decode cX12_reads 91 = .ok (.aload_n 0, 1) := by decide +kernel
theorem dX12_reads_92 : decode cX12_reads 92 = .ok (.iconst 3, 1) := by decide +kernel
theorem dX12_reads_93 : decode cX12_reads 93 = .ok (.putfield 194, 3) := by decide +kernel
theorem dX12_reads_96 : decode cX12_reads 96 = .ok (.iconst 0, 1) := by decide +kernel
theorem dX12_reads_97 : decode cX12_reads 97 = .ok (.ireturn, 1) := by decide +kernel
theorem dX12_reads_98 : decode cX12_reads 98 = .ok (.aload_n 0, 1) := by decide +kernel
theorem dX12_reads_99 : decode cX12_reads 99 = .ok (.getfield 19, 3) := by decide +kernel
theorem dX12_reads_102 : decode cX12_reads 102 = .ok (.aload_n 0, 1) := by decide +kernel
theorem dX12_reads_103 : decode cX12_reads 103 = .ok (.getfield 188, 3) := by decide +kernel
theorem dX12_reads_106 : decode cX12_reads 106 = .ok (.iaload, 1) := by decide +kernel
theorem dX12_reads_107 : decode cX12_reads 107 = .ok (.bipush 45, 2) := by decide +kernel
theorem dX12_reads_109 : decode cX12_reads 109 = .ok (.if_icmp .ne 7, 3) := by decide +kernel
theorem dX12_reads_112 : decode cX12_reads 112 = .ok (.iconst (-1), 1) := by decide +kernel
theorem dX12_reads_113 : decode cX12_reads 113 = .ok (.goto 4, 3) := by decide +kernel
theorem dX12_reads_116 : decode cX12_reads 116 = .ok (.iconst 1, 1) := by decide +kernel
theorem dX12_reads_117 : decode cX12_reads 117 = .ok (.istore_n 1, 1) := by decide +kernel
theorem dX12_reads_118 : decode cX12_reads 118 = .ok (.aload_n 0, 1) := by decide +kernel
theorem dX12_reads_119 : decode cX12_reads 119 = .ok (.dup, 1) := by decide +kernel
theorem dX12_reads_120 : decode cX12_reads 120 = .ok (.getfield 188, 3) := by decide +kernel
theorem dX12_reads_123 : decode cX12_reads 123 = .ok (.iconst 1, 1) := by decide +kernel
theorem dX12_reads_124 : decode cX12_reads 124 = .ok (.iadd, 1) := by decide +kernel
theorem dX12_reads_125 : decode cX12_reads 125 = .ok (.putfield 188, 3) := by decide +kernel
theorem dX12_reads_128 : decode cX12_reads 128 = .ok (.aload_n 0, 1) := by decide +kernel
theorem dX12_reads_129 : decode cX12_reads 129 = .ok (.iload_n 1, 1) := by decide +kernel
theorem dX12_reads_130 : decode cX12_reads 130 = .ok (.invokevirtual 197, 3) := by decide +kernel
theorem dX12_reads_133 : decode cX12_reads 133 = .ok (.istore_n 2, 1) := by decide +kernel
theorem dX12_reads_134 : decode cX12_reads 134 = .ok (.goto (-69), 3) := by decide +kernel
theorem dX12_reads_137 : decode cX12_reads 137 = .ok (.iload_n 2, 1) := by decide +kernel
theorem dX12_reads_138 : decode cX12_reads 138 = .ok (.ifCond .eq 18, 3) := by decide +kernel
theorem dX12_reads_141 : decode cX12_reads 141 = .ok (.aload_n 0, 1) := by decide +kernel
theorem dX12_reads_142 : decode cX12_reads 142 = .ok (.getfield 188, 3) := by decide +kernel
theorem dX12_reads_145 : decode cX12_reads 145 = .ok (.aload_n 0, 1) := by decide +kernel
theorem dX12_reads_146 : decode cX12_reads 146 = .ok (.getfield 175, 3) := by decide +kernel
theorem dX12_reads_149 : decode cX12_reads 149 = .ok (.if_icmp .ne 7, 3) := by decide +kernel
theorem dX12_reads_152 : decode cX12_reads 152 = .ok (.iconst 1, 1) := by decide +kernel
theorem dX12_reads_153 : decode cX12_reads 153 = .ok (.goto 4, 3) := by decide +kernel
theorem dX12_reads_156 : decode cX12_reads 156 = .ok (.iconst 0, 1) := by decide +kernel
theorem dX12_reads_157 : decode cX12_reads 157 = .ok (.ireturn, 1) := by decide +kernel
theorem dX12_fault_0 : decode cX12_fault 0 = .ok (.iload_n 1, 1) := by decide +kernel
theorem dX12_fault_1 : decode cX12_fault 1 = .ok (.iconst 0, 1) := by decide +kernel
theorem dX12_fault_2 : decode cX12_fault 2 = .ok (.iconst 1, 1) := by decide +kernel
theorem dX12_fault_3 : decode cX12_fault 3 = .ok (.invokestatic 25, 3) := by decide +kernel
theorem dX12_fault_6 : decode cX12_fault 6 = .ok (.ifCond .ne 6, 3) := by decide +kernel
theorem dX12_fault_9 : decode cX12_fault 9 = .ok (.ldc 29, 2) := by decide +kernel
theorem dX12_fault_11 : decode cX12_fault 11 = .ok (.ireturn, 1) := by decide +kernel
theorem dX12_fault_12 : decode cX12_fault 12 = .ok (.aload_n 0, 1) := by decide +kernel
theorem dX12_fault_13 : decode cX12_fault 13 = .ok (.invokevirtual 128, 3) := by decide +kernel
theorem dX12_fault_16 : decode cX12_fault 16 = .ok (.aload_n 0, 1) := by decide +kernel
theorem dX12_fault_17 : decode cX12_fault 17 = .ok (.invokevirtual 200, 3) := by decide +kernel
theorem dX12_fault_20 : decode cX12_fault 20 = .ok (.istore_n 2, 1) := by decide +kernel
theorem dX12_fault_21 : decode cX12_fault 21 = .ok (.aload_n 0, 1) := by decide +kernel
theorem dX12_fault_22 : decode cX12_fault 22 = .ok (.invokevirtual 30, 3) := by decide +kernel
theorem dX12_fault_25 : decode cX12_fault 25 = .ok (.iload_n 2, 1) := by decide +kernel
theorem dX12_fault_26 : decode cX12_fault 26 = .ok (.ifCond .eq 8, 3) := by decide +kernel
theorem dX12_fault_29 : decode cX12_fault 29 = .ok (.ldc 161, 2) := by decide +kernel
theorem dX12_fault_31 : decode cX12_fault 31 = .ok (.goto 18, 3) := by decide +kernel
theorem dX12_fault_34 : decode cX12_fault 34 = .ok (.iload_n 1, 1) := by decide +kernel
theorem dX12_fault_35 : decode cX12_fault 35 = .ok (.ifCond .ne 10, 3) := by decide +kernel
theorem dX12_fault_38 : decode cX12_fault 38 = .ok (.aload_n 0, 1) := by decide +kernel
theorem dX12_fault_39 : decode cX12_fault 39 = .ok (.getfield 188, 3) := by decide +kernel
theorem dX12_fault_42 : decode cX12_fault 42 = .ok (.goto 7, 3) := by decide +kernel
theorem dX12_fault_45 : decode cX12_fault 45 = .ok (.aload_n 0, 1) := by decide +kernel
theorem dX12_fault_46 : decode cX12_fault 46 = .ok (.getfield 194, 3) := by decide +kernel
theorem dX12_fault_49 : decode cX12_fault 49 = .ok (.ireturn, 1) := by decide +kernel
theorem dX12_read_0 : decode cX12_read 0 = .ok (.aload_n 0, 1) := by decide +kernel
theorem dX12_read_1 : decode cX12_read 1 = .ok (.invokevirtual 128, 3) := by decide +kernel
theorem dX12_read_4 : decode cX12_read 4 = .ok (.aload_n 0, 1) := by decide +kernel
theorem dX12_read_5 : decode cX12_read 5 = .ok (.aload_n 0, 1) := by decide +kernel
theorem dX12_read_6 : decode cX12_read 6 = .ok (.invokevirtual 200, 3) := by decide +kernel
theorem dX12_read_9 : decode cX12_read 9 = .ok (.ifCond .eq 12, 3) := by decide +kernel
theorem dX12_read_12 : decode cX12_read 12 = .ok (.aload_n 0, 1) := by decide +kernel
theorem dX12_read_13 : decode cX12_read 13 = .ok (.getfield 7, 3) := by decide +kernel
theorem dX12_read_16 : decode cX12_read 16 = .ok (.iconst 0, 1) := by decide +kernel
theorem dX12_read_17 : decode cX12_read 17 = .ok (.iaload, 1) := by decide +kernel
theorem dX12_read_18 : decode cX12_read 18 = .ok (.goto 5, 3) := by decide +kernel
theorem dX12_read_21 : decode cX12_read 21 = .ok (.ldc 116, 2) := by decide +kernel
theorem dX12_read_23 : decode cX12_read 23 = .ok (.invokevirtual 134, 3) := by decide +kernel
theorem dX12_read_26 : decode cX12_read 26 = .ok (.ireturn, 1) := by decide +kernel
theorem dJxf58ca_isNaN_12338_0 : decode cJxf58ca_isNaN_12338 0 = .ok (.fload_n 0, 1) := by decide +kernel
theorem dJxf58ca_isNaN_12338_1 : decode cJxf58ca_isNaN_12338 1 = .ok (.fload_n 0, 1) := by decide +kernel
theorem dJxf58ca_isNaN_12338_2 : decode cJxf58ca_isNaN_12338 2 = .ok (.fcmp .l, 1) := by decide +kernel
theorem dJxf58ca_isNaN_12338_3 : decode cJxf58ca_isNaN_12338 3 = .ok (.ifCond .eq 7, 3) := by decide +kernel
theorem dJxf58ca_isNaN_12338_6 : decode cJxf58ca_isNaN_12338 6 = .ok (.iconst 1, 1) := by decide +kernel
theorem dJxf58ca_isNaN_12338_7 : decode cJxf58ca_isNaN_12338 7 = .ok (.goto 4, 3) := by decide +kernel
theorem dJxf58ca_isNaN_12338_10 : decode cJxf58ca_isNaN_12338 10 = .ok (.iconst 0, 1) := by decide +kernel
theorem dJxf58ca_isNaN_12338_11 : decode cJxf58ca_isNaN_12338 11 = .ok (.ireturn, 1) := by decide +kernel
theorem dJxf58ca_floatToIntBits_5c35a_0 : decode cJxf58ca_floatToIntBits_5c35a 0 = .ok (.fload_n 0, 1) := by decide +kernel
theorem dJxf58ca_floatToIntBits_5c35a_1 : decode cJxf58ca_floatToIntBits_5c35a 1 = .ok (.invokestatic 59, 3) := by decide +kernel
theorem dJxf58ca_floatToIntBits_5c35a_4 : decode cJxf58ca_floatToIntBits_5c35a 4 = .ok (.ifCond .ne 8, 3) := by decide +kernel
theorem dJxf58ca_floatToIntBits_5c35a_7 : decode cJxf58ca_floatToIntBits_5c35a 7 = .ok (.fload_n 0, 1) := by decide +kernel
theorem dJxf58ca_floatToIntBits_5c35a_8 : decode cJxf58ca_floatToIntBits_5c35a 8 = .ok (.invokestatic 74, 3) := by decide +kernel
theorem dJxf58ca_floatToIntBits_5c35a_11 : decode cJxf58ca_floatToIntBits_5c35a 11 = .ok (.ireturn, 1) := by decide +kernel
theorem dJxf58ca_floatToIntBits_5c35a_12 : decode cJxf58ca_floatToIntBits_5c35a 12 = .ok (.ldc 77, 2) := by decide +kernel
theorem dJxf58ca_floatToIntBits_5c35a_14 : decode cJxf58ca_floatToIntBits_5c35a 14 = .ok (.ireturn, 1) := by decide +kernel
theorem dJ9_max_7cf53_0 : decode cJ9_max_7cf53 0 = .ok (.iload_n 0, 1) := by decide +kernel
theorem dJ9_max_7cf53_1 : decode cJ9_max_7cf53 1 = .ok (.iload_n 1, 1) := by decide +kernel
theorem dJ9_max_7cf53_2 : decode cJ9_max_7cf53 2 = .ok (.if_icmp .lt 7, 3) := by decide +kernel
theorem dJ9_max_7cf53_5 : decode cJ9_max_7cf53 5 = .ok (.iload_n 0, 1) := by decide +kernel
theorem dJ9_max_7cf53_6 : decode cJ9_max_7cf53 6 = .ok (.goto 4, 3) := by decide +kernel
theorem dJ9_max_7cf53_9 : decode cJ9_max_7cf53 9 = .ok (.iload_n 1, 1) := by decide +kernel
theorem dJ9_max_7cf53_10 : decode cJ9_max_7cf53 10 = .ok (.ireturn, 1) := by decide +kernel
theorem dJ9_min_7cf53_0 : decode cJ9_min_7cf53 0 = .ok (.iload_n 0, 1) := by decide +kernel
theorem dJ9_min_7cf53_1 : decode cJ9_min_7cf53 1 = .ok (.iload_n 1, 1) := by decide +kernel
theorem dJ9_min_7cf53_2 : decode cJ9_min_7cf53 2 = .ok (.if_icmp .gt 7, 3) := by decide +kernel
theorem dJ9_min_7cf53_5 : decode cJ9_min_7cf53 5 = .ok (.iload_n 0, 1) := by decide +kernel
theorem dJ9_min_7cf53_6 : decode cJ9_min_7cf53 6 = .ok (.goto 4, 3) := by decide +kernel
theorem dJ9_min_7cf53_9 : decode cJ9_min_7cf53 9 = .ok (.iload_n 1, 1) := by decide +kernel
theorem dJ9_min_7cf53_10 : decode cJ9_min_7cf53 10 = .ok (.ireturn, 1) := by decide +kernel
theorem dL_law_0 : decode cL_law 0 = .ok (.new 7, 3) := by decide +kernel
theorem dL_law_3 : decode cL_law 3 = .ok (.dup, 1) := by decide +kernel
theorem dL_law_4 : decode cL_law 4 = .ok (.invokespecial 9, 3) := by decide +kernel
theorem dL_law_7 : decode cL_law 7 = .ok (.astore_n 1, 1) := by decide +kernel
theorem dL_law_8 : decode cL_law 8 = .ok (.new 10, 3) := by decide +kernel
theorem dL_law_11 : decode cL_law 11 = .ok (.dup, 1) := by decide +kernel
theorem dL_law_12 : decode cL_law 12 = .ok (.invokespecial 12, 3) := by decide +kernel
theorem dL_law_15 : decode cL_law 15 = .ok (.astore_n 2, 1) := by decide +kernel
theorem dL_law_16 : decode cL_law 16 = .ok (.iconst 0, 1) := by decide +kernel
theorem dL_law_17 : decode cL_law 17 = .ok (.istore_n 3, 1) := by decide +kernel
theorem dL_law_18 : decode cL_law 18 = .ok (.iload_n 3, 1) := by decide +kernel
theorem dL_law_19 : decode cL_law 19 = .ok (.aload_n 0, 1) := by decide +kernel
theorem dL_law_20 : decode cL_law 20 = .ok (.arraylength, 1) := by decide +kernel
theorem dL_law_21 : decode cL_law 21 = .ok (.iconst 4, 1) := by decide +kernel
theorem dL_law_22 : decode cL_law 22 = .ok (.isub, 1) := by decide +kernel
theorem dL_law_23 : decode cL_law 23 = .ok (.if_icmp .gt 749, 3) := by decide +kernel
theorem dL_law_26 : decode cL_law 26 = .ok (.aload_n 0, 1) := by decide +kernel
theorem dL_law_27 : decode cL_law 27 = .ok (.iload_n 3, 1) := by decide +kernel
theorem dL_law_28 : decode cL_law 28 = .ok (.iaload, 1) := by decide +kernel
theorem dL_law_29 : decode cL_law 29 = .ok (.bipush 31, 2) := by decide +kernel
theorem dL_law_31 : decode cL_law 31 = .ok (.iand, 1) := by decide +kernel
theorem dL_law_32 : decode cL_law 32 = .ok (.tableswitch 734 0 20 #[100, 143, 166, 199, 243, 286, 329, 372, 405, 428, 461, 494, 537, 560, 583, 606, 649, 662, 685, 698, 721], 100) := by decide +kernel
theorem dL_law_132 : decode cL_law 132 = .ok (.aload_n 1, 1) := by decide +kernel
theorem dL_law_133 : decode cL_law 133 = .ok (.aload_n 0, 1) := by decide +kernel
theorem dL_law_134 : decode cL_law 134 = .ok (.iload_n 3, 1) := by decide +kernel
theorem dL_law_135 : decode cL_law 135 = .ok (.iconst 1, 1) := by decide +kernel
theorem dL_law_136 : decode cL_law 136 = .ok (.iadd, 1) := by decide +kernel
theorem dL_law_137 : decode cL_law 137 = .ok (.iaload, 1) := by decide +kernel
theorem dL_law_138 : decode cL_law 138 = .ok (.aload_n 0, 1) := by decide +kernel
theorem dL_law_139 : decode cL_law 139 = .ok (.iload_n 3, 1) := by decide +kernel
theorem dL_law_140 : decode cL_law 140 = .ok (.iconst 2, 1) := by decide +kernel
theorem dL_law_141 : decode cL_law 141 = .ok (.iadd, 1) := by decide +kernel
theorem dL_law_142 : decode cL_law 142 = .ok (.iaload, 1) := by decide +kernel
theorem dL_law_143 : decode cL_law 143 = .ok (.aload_n 0, 1) := by decide +kernel
theorem dL_law_144 : decode cL_law 144 = .ok (.iload_n 3, 1) := by decide +kernel
theorem dL_law_145 : decode cL_law 145 = .ok (.iconst 3, 1) := by decide +kernel
theorem dL_law_146 : decode cL_law 146 = .ok (.iadd, 1) := by decide +kernel
theorem dL_law_147 : decode cL_law 147 = .ok (.iaload, 1) := by decide +kernel
theorem dL_law_148 : decode cL_law 148 = .ok (.invokevirtual 13, 3) := by decide +kernel
theorem dL_law_151 : decode cL_law 151 = .ok (.aload_n 2, 1) := by decide +kernel
theorem dL_law_152 : decode cL_law 152 = .ok (.aload_n 0, 1) := by decide +kernel
theorem dL_law_153 : decode cL_law 153 = .ok (.iload_n 3, 1) := by decide +kernel
theorem dL_law_154 : decode cL_law 154 = .ok (.iconst 1, 1) := by decide +kernel
theorem dL_law_155 : decode cL_law 155 = .ok (.iadd, 1) := by decide +kernel
theorem dL_law_156 : decode cL_law 156 = .ok (.iaload, 1) := by decide +kernel
theorem dL_law_157 : decode cL_law 157 = .ok (.aload_n 0, 1) := by decide +kernel
theorem dL_law_158 : decode cL_law 158 = .ok (.iload_n 3, 1) := by decide +kernel
theorem dL_law_159 : decode cL_law 159 = .ok (.iconst 2, 1) := by decide +kernel
theorem dL_law_160 : decode cL_law 160 = .ok (.iadd, 1) := by decide +kernel
theorem dL_law_161 : decode cL_law 161 = .ok (.iaload, 1) := by decide +kernel
theorem dL_law_162 : decode cL_law 162 = .ok (.aload_n 0, 1) := by decide +kernel
theorem dL_law_163 : decode cL_law 163 = .ok (.iload_n 3, 1) := by decide +kernel
theorem dL_law_164 : decode cL_law 164 = .ok (.iconst 3, 1) := by decide +kernel
theorem dL_law_165 : decode cL_law 165 = .ok (.iadd, 1) := by decide +kernel
theorem dL_law_166 : decode cL_law 166 = .ok (.iaload, 1) := by decide +kernel
theorem dL_law_167 : decode cL_law 167 = .ok (.invokevirtual 17, 3) := by decide +kernel
theorem dL_law_170 : decode cL_law 170 = .ok (.if_icmp .eq 596, 3) := by decide +kernel
theorem dL_law_173 : decode cL_law 173 = .ok (.iconst 0, 1) := by decide +kernel
theorem dL_law_174 : decode cL_law 174 = .ok (.ireturn, 1) := by decide +kernel
theorem dL_law_175 : decode cL_law 175 = .ok (.aload_n 1, 1) := by decide +kernel
theorem dL_law_176 : decode cL_law 176 = .ok (.aload_n 0, 1) := by decide +kernel
theorem dL_law_177 : decode cL_law 177 = .ok (.iload_n 3, 1) := by decide +kernel
theorem dL_law_178 : decode cL_law 178 = .ok (.iconst 1, 1) := by decide +kernel
theorem dL_law_179 : decode cL_law 179 = .ok (.iadd, 1) := by decide +kernel
theorem dL_law_180 : decode cL_law 180 = .ok (.iaload, 1) := by decide +kernel
theorem dL_law_181 : decode cL_law 181 = .ok (.invokevirtual 18, 3) := by decide +kernel
theorem dL_law_184 : decode cL_law 184 = .ok (.aload_n 2, 1) := by decide +kernel
theorem dL_law_185 : decode cL_law 185 = .ok (.aload_n 0, 1) := by decide +kernel
theorem dL_law_186 : decode cL_law 186 = .ok (.iload_n 3, 1) := by decide +kernel
theorem dL_law_187 : decode cL_law 187 = .ok (.iconst 1, 1) := by decide +kernel
theorem dL_law_188 : decode cL_law 188 = .ok (.iadd, 1) := by decide +kernel
theorem dL_law_189 : decode cL_law 189 = .ok (.iaload, 1) := by decide +kernel
theorem dL_law_190 : decode cL_law 190 = .ok (.invokevirtual 22, 3) := by decide +kernel
theorem dL_law_193 : decode cL_law 193 = .ok (.if_icmp .eq 573, 3) := by decide +kernel
theorem dL_law_196 : decode cL_law 196 = .ok (.iconst 0, 1) := by decide +kernel
theorem dL_law_197 : decode cL_law 197 = .ok (.ireturn, 1) := by decide +kernel
theorem dL_law_198 : decode cL_law 198 = .ok (.aload_n 1, 1) := by decide +kernel
theorem dL_law_199 : decode cL_law 199 = .ok (.aload_n 0, 1) := by decide +kernel
theorem dL_law_200 : decode cL_law 200 = .ok (.iload_n 3, 1) := by decide +kernel
theorem dL_law_201 : decode cL_law 201 = .ok (.iconst 1, 1) := by decide +kernel
theorem dL_law_202 : decode cL_law 202 = .ok (.iadd, 1) := by decide +kernel
theorem dL_law_203 : decode cL_law 203 = .ok (.iaload, 1) := by decide +kernel
theorem dL_law_204 : decode cL_law 204 = .ok (.aload_n 0, 1) := by decide +kernel
theorem dL_law_205 : decode cL_law 205 = .ok (.iload_n 3, 1) := by decide +kernel
theorem dL_law_206 : decode cL_law 206 = .ok (.iconst 2, 1) := by decide +kernel
theorem dL_law_207 : decode cL_law 207 = .ok (.iadd, 1) := by decide +kernel
theorem dL_law_208 : decode cL_law 208 = .ok (.iaload, 1) := by decide +kernel
theorem dL_law_209 : decode cL_law 209 = .ok (.invokevirtual 23, 3) := by decide +kernel
theorem dL_law_212 : decode cL_law 212 = .ok (.aload_n 2, 1) := by decide +kernel
theorem dL_law_213 : decode cL_law 213 = .ok (.aload_n 0, 1) := by decide +kernel
theorem dL_law_214 : decode cL_law 214 = .ok (.iload_n 3, 1) := by decide +kernel
theorem dL_law_215 : decode cL_law 215 = .ok (.iconst 1, 1) := by decide +kernel
theorem dL_law_216 : decode cL_law 216 = .ok (.iadd, 1) := by decide +kernel
theorem dL_law_217 : decode cL_law 217 = .ok (.iaload, 1) := by decide +kernel
theorem dL_law_218 : decode cL_law 218 = .ok (.aload_n 0, 1) := by decide +kernel
theorem dL_law_219 : decode cL_law 219 = .ok (.iload_n 3, 1) := by decide +kernel
theorem dL_law_220 : decode cL_law 220 = .ok (.iconst 2, 1) := by decide +kernel
theorem dL_law_221 : decode cL_law 221 = .ok (.iadd, 1) := by decide +kernel
theorem dL_law_222 : decode cL_law 222 = .ok (.iaload, 1) := by decide +kernel
theorem dL_law_223 : decode cL_law 223 = .ok (.invokevirtual 27, 3) := by decide +kernel
theorem dL_law_226 : decode cL_law 226 = .ok (.if_icmp .eq 540, 3) := by decide +kernel
theorem dL_law_229 : decode cL_law 229 = .ok (.iconst 0, 1) := by decide +kernel
theorem dL_law_230 : decode cL_law 230 = .ok (.ireturn, 1) := by decide +kernel
theorem dL_law_231 : decode cL_law 231 = .ok (.aload_n 1, 1) := by decide +kernel
theorem dL_law_232 : decode cL_law 232 = .ok (.aload_n 0, 1) := by decide +kernel
theorem dL_law_233 : decode cL_law 233 = .ok (.iload_n 3, 1) := by decide +kernel
theorem dL_law_234 : decode cL_law 234 = .ok (.iconst 1, 1) := by decide +kernel
theorem dL_law_235 : decode cL_law 235 = .ok (.iadd, 1) := by decide +kernel
theorem dL_law_236 : decode cL_law 236 = .ok (.iaload, 1) := by decide +kernel
theorem dL_law_237 : decode cL_law 237 = .ok (.aload_n 0, 1) := by decide +kernel
theorem dL_law_238 : decode cL_law 238 = .ok (.iload_n 3, 1) := by decide +kernel
theorem dL_law_239 : decode cL_law 239 = .ok (.iconst 2, 1) := by decide +kernel
theorem dL_law_240 : decode cL_law 240 = .ok (.iadd, 1) := by decide +kernel
theorem dL_law_241 : decode cL_law 241 = .ok (.iaload, 1) := by decide +kernel
theorem dL_law_242 : decode cL_law 242 = .ok (.aload_n 0, 1) := by decide +kernel
theorem dL_law_243 : decode cL_law 243 = .ok (.iload_n 3, 1) := by decide +kernel
theorem dL_law_244 : decode cL_law 244 = .ok (.iconst 3, 1) := by decide +kernel
theorem dL_law_245 : decode cL_law 245 = .ok (.iadd, 1) := by decide +kernel
theorem dL_law_246 : decode cL_law 246 = .ok (.iaload, 1) := by decide +kernel
theorem dL_law_247 : decode cL_law 247 = .ok (.invokevirtual 28, 3) := by decide +kernel
theorem dL_law_250 : decode cL_law 250 = .ok (.aload_n 2, 1) := by decide +kernel
theorem dL_law_251 : decode cL_law 251 = .ok (.aload_n 0, 1) := by decide +kernel
theorem dL_law_252 : decode cL_law 252 = .ok (.iload_n 3, 1) := by decide +kernel
theorem dL_law_253 : decode cL_law 253 = .ok (.iconst 1, 1) := by decide +kernel
theorem dL_law_254 : decode cL_law 254 = .ok (.iadd, 1) := by decide +kernel
theorem dL_law_255 : decode cL_law 255 = .ok (.iaload, 1) := by decide +kernel
theorem dL_law_256 : decode cL_law 256 = .ok (.aload_n 0, 1) := by decide +kernel
theorem dL_law_257 : decode cL_law 257 = .ok (.iload_n 3, 1) := by decide +kernel
theorem dL_law_258 : decode cL_law 258 = .ok (.iconst 2, 1) := by decide +kernel
theorem dL_law_259 : decode cL_law 259 = .ok (.iadd, 1) := by decide +kernel
theorem dL_law_260 : decode cL_law 260 = .ok (.iaload, 1) := by decide +kernel
theorem dL_law_261 : decode cL_law 261 = .ok (.aload_n 0, 1) := by decide +kernel
theorem dL_law_262 : decode cL_law 262 = .ok (.iload_n 3, 1) := by decide +kernel
theorem dL_law_263 : decode cL_law 263 = .ok (.iconst 3, 1) := by decide +kernel
theorem dL_law_264 : decode cL_law 264 = .ok (.iadd, 1) := by decide +kernel
theorem dL_law_265 : decode cL_law 265 = .ok (.iaload, 1) := by decide +kernel
theorem dL_law_266 : decode cL_law 266 = .ok (.invokevirtual 32, 3) := by decide +kernel
theorem dL_law_269 : decode cL_law 269 = .ok (.lcmp, 1) := by decide +kernel
theorem dL_law_270 : decode cL_law 270 = .ok (.ifCond .eq 496, 3) := by decide +kernel
theorem dL_law_273 : decode cL_law 273 = .ok (.iconst 0, 1) := by decide +kernel
theorem dL_law_274 : decode cL_law 274 = .ok (.ireturn, 1) := by decide +kernel
theorem dL_law_275 : decode cL_law 275 = .ok (.aload_n 1, 1) := by decide +kernel
theorem dL_law_276 : decode cL_law 276 = .ok (.aload_n 0, 1) := by decide +kernel
theorem dL_law_277 : decode cL_law 277 = .ok (.iload_n 3, 1) := by decide +kernel
theorem dL_law_278 : decode cL_law 278 = .ok (.iconst 1, 1) := by decide +kernel
theorem dL_law_279 : decode cL_law 279 = .ok (.iadd, 1) := by decide +kernel
theorem dL_law_280 : decode cL_law 280 = .ok (.iaload, 1) := by decide +kernel
theorem dL_law_281 : decode cL_law 281 = .ok (.aload_n 0, 1) := by decide +kernel
theorem dL_law_282 : decode cL_law 282 = .ok (.iload_n 3, 1) := by decide +kernel
theorem dL_law_283 : decode cL_law 283 = .ok (.iconst 2, 1) := by decide +kernel
theorem dL_law_284 : decode cL_law 284 = .ok (.iadd, 1) := by decide +kernel
theorem dL_law_285 : decode cL_law 285 = .ok (.iaload, 1) := by decide +kernel
theorem dL_law_286 : decode cL_law 286 = .ok (.aload_n 0, 1) := by decide +kernel
theorem dL_law_287 : decode cL_law 287 = .ok (.iload_n 3, 1) := by decide +kernel
theorem dL_law_288 : decode cL_law 288 = .ok (.iconst 3, 1) := by decide +kernel
theorem dL_law_289 : decode cL_law 289 = .ok (.iadd, 1) := by decide +kernel
theorem dL_law_290 : decode cL_law 290 = .ok (.iaload, 1) := by decide +kernel
theorem dL_law_291 : decode cL_law 291 = .ok (.invokevirtual 33, 3) := by decide +kernel
theorem dL_law_294 : decode cL_law 294 = .ok (.aload_n 2, 1) := by decide +kernel
theorem dL_law_295 : decode cL_law 295 = .ok (.aload_n 0, 1) := by decide +kernel
theorem dL_law_296 : decode cL_law 296 = .ok (.iload_n 3, 1) := by decide +kernel
theorem dL_law_297 : decode cL_law 297 = .ok (.iconst 1, 1) := by decide +kernel
theorem dL_law_298 : decode cL_law 298 = .ok (.iadd, 1) := by decide +kernel
theorem dL_law_299 : decode cL_law 299 = .ok (.iaload, 1) := by decide +kernel
theorem dL_law_300 : decode cL_law 300 = .ok (.aload_n 0, 1) := by decide +kernel
theorem dL_law_301 : decode cL_law 301 = .ok (.iload_n 3, 1) := by decide +kernel
theorem dL_law_302 : decode cL_law 302 = .ok (.iconst 2, 1) := by decide +kernel
theorem dL_law_303 : decode cL_law 303 = .ok (.iadd, 1) := by decide +kernel
theorem dL_law_304 : decode cL_law 304 = .ok (.iaload, 1) := by decide +kernel
theorem dL_law_305 : decode cL_law 305 = .ok (.aload_n 0, 1) := by decide +kernel
theorem dL_law_306 : decode cL_law 306 = .ok (.iload_n 3, 1) := by decide +kernel
theorem dL_law_307 : decode cL_law 307 = .ok (.iconst 3, 1) := by decide +kernel
theorem dL_law_308 : decode cL_law 308 = .ok (.iadd, 1) := by decide +kernel
theorem dL_law_309 : decode cL_law 309 = .ok (.iaload, 1) := by decide +kernel
theorem dL_law_310 : decode cL_law 310 = .ok (.invokevirtual 36, 3) := by decide +kernel
theorem dL_law_313 : decode cL_law 313 = .ok (.if_icmp .eq 453, 3) := by decide +kernel
theorem dL_law_316 : decode cL_law 316 = .ok (.iconst 0, 1) := by decide +kernel
theorem dL_law_317 : decode cL_law 317 = .ok (.ireturn, 1) := by decide +kernel
theorem dL_law_318 : decode cL_law 318 = .ok (.aload_n 1, 1) := by decide +kernel
theorem dL_law_319 : decode cL_law 319 = .ok (.aload_n 0, 1) := by decide +kernel
theorem dL_law_320 : decode cL_law 320 = .ok (.iload_n 3, 1) := by decide +kernel
theorem dL_law_321 : decode cL_law 321 = .ok (.iconst 1, 1) := by decide +kernel
theorem dL_law_322 : decode cL_law 322 = .ok (.iadd, 1) := by decide +kernel
theorem dL_law_323 : decode cL_law 323 = .ok (.iaload, 1) := by decide +kernel
theorem dL_law_324 : decode cL_law 324 = .ok (.aload_n 0, 1) := by decide +kernel
theorem dL_law_325 : decode cL_law 325 = .ok (.iload_n 3, 1) := by decide +kernel
theorem dL_law_326 : decode cL_law 326 = .ok (.iconst 2, 1) := by decide +kernel
theorem dL_law_327 : decode cL_law 327 = .ok (.iadd, 1) := by decide +kernel
theorem dL_law_328 : decode cL_law 328 = .ok (.iaload, 1) := by decide +kernel
theorem dL_law_329 : decode cL_law 329 = .ok (.aload_n 0, 1) := by decide +kernel
theorem dL_law_330 : decode cL_law 330 = .ok (.iload_n 3, 1) := by decide +kernel
theorem dL_law_331 : decode cL_law 331 = .ok (.iconst 3, 1) := by decide +kernel
theorem dL_law_332 : decode cL_law 332 = .ok (.iadd, 1) := by decide +kernel
theorem dL_law_333 : decode cL_law 333 = .ok (.iaload, 1) := by decide +kernel
theorem dL_law_334 : decode cL_law 334 = .ok (.invokevirtual 37, 3) := by decide +kernel
theorem dL_law_337 : decode cL_law 337 = .ok (.aload_n 2, 1) := by decide +kernel
theorem dL_law_338 : decode cL_law 338 = .ok (.aload_n 0, 1) := by decide +kernel
theorem dL_law_339 : decode cL_law 339 = .ok (.iload_n 3, 1) := by decide +kernel
theorem dL_law_340 : decode cL_law 340 = .ok (.iconst 1, 1) := by decide +kernel
theorem dL_law_341 : decode cL_law 341 = .ok (.iadd, 1) := by decide +kernel
theorem dL_law_342 : decode cL_law 342 = .ok (.iaload, 1) := by decide +kernel
theorem dL_law_343 : decode cL_law 343 = .ok (.aload_n 0, 1) := by decide +kernel
theorem dL_law_344 : decode cL_law 344 = .ok (.iload_n 3, 1) := by decide +kernel
theorem dL_law_345 : decode cL_law 345 = .ok (.iconst 2, 1) := by decide +kernel
theorem dL_law_346 : decode cL_law 346 = .ok (.iadd, 1) := by decide +kernel
theorem dL_law_347 : decode cL_law 347 = .ok (.iaload, 1) := by decide +kernel
theorem dL_law_348 : decode cL_law 348 = .ok (.aload_n 0, 1) := by decide +kernel
theorem dL_law_349 : decode cL_law 349 = .ok (.iload_n 3, 1) := by decide +kernel
theorem dL_law_350 : decode cL_law 350 = .ok (.iconst 3, 1) := by decide +kernel
theorem dL_law_351 : decode cL_law 351 = .ok (.iadd, 1) := by decide +kernel
theorem dL_law_352 : decode cL_law 352 = .ok (.iaload, 1) := by decide +kernel
theorem dL_law_353 : decode cL_law 353 = .ok (.invokevirtual 40, 3) := by decide +kernel
theorem dL_law_356 : decode cL_law 356 = .ok (.if_icmp .eq 410, 3) := by decide +kernel
theorem dL_law_359 : decode cL_law 359 = .ok (.iconst 0, 1) := by decide +kernel
theorem dL_law_360 : decode cL_law 360 = .ok (.ireturn, 1) := by decide +kernel
theorem dL_law_361 : decode cL_law 361 = .ok (.aload_n 1, 1) := by decide +kernel
theorem dL_law_362 : decode cL_law 362 = .ok (.aload_n 0, 1) := by decide +kernel
theorem dL_law_363 : decode cL_law 363 = .ok (.iload_n 3, 1) := by decide +kernel
theorem dL_law_364 : decode cL_law 364 = .ok (.iconst 1, 1) := by decide +kernel
theorem dL_law_365 : decode cL_law 365 = .ok (.iadd, 1) := by decide +kernel
theorem dL_law_366 : decode cL_law 366 = .ok (.iaload, 1) := by decide +kernel
theorem dL_law_367 : decode cL_law 367 = .ok (.aload_n 0, 1) := by decide +kernel
theorem dL_law_368 : decode cL_law 368 = .ok (.iload_n 3, 1) := by decide +kernel
theorem dL_law_369 : decode cL_law 369 = .ok (.iconst 2, 1) := by decide +kernel
theorem dL_law_370 : decode cL_law 370 = .ok (.iadd, 1) := by decide +kernel
theorem dL_law_371 : decode cL_law 371 = .ok (.iaload, 1) := by decide +kernel
theorem dL_law_372 : decode cL_law 372 = .ok (.aload_n 0, 1) := by decide +kernel
theorem dL_law_373 : decode cL_law 373 = .ok (.iload_n 3, 1) := by decide +kernel
theorem dL_law_374 : decode cL_law 374 = .ok (.iconst 3, 1) := by decide +kernel
theorem dL_law_375 : decode cL_law 375 = .ok (.iadd, 1) := by decide +kernel
theorem dL_law_376 : decode cL_law 376 = .ok (.iaload, 1) := by decide +kernel
theorem dL_law_377 : decode cL_law 377 = .ok (.invokevirtual 41, 3) := by decide +kernel
theorem dL_law_380 : decode cL_law 380 = .ok (.aload_n 2, 1) := by decide +kernel
theorem dL_law_381 : decode cL_law 381 = .ok (.aload_n 0, 1) := by decide +kernel
theorem dL_law_382 : decode cL_law 382 = .ok (.iload_n 3, 1) := by decide +kernel
theorem dL_law_383 : decode cL_law 383 = .ok (.iconst 1, 1) := by decide +kernel
theorem dL_law_384 : decode cL_law 384 = .ok (.iadd, 1) := by decide +kernel
theorem dL_law_385 : decode cL_law 385 = .ok (.iaload, 1) := by decide +kernel
theorem dL_law_386 : decode cL_law 386 = .ok (.aload_n 0, 1) := by decide +kernel
theorem dL_law_387 : decode cL_law 387 = .ok (.iload_n 3, 1) := by decide +kernel
theorem dL_law_388 : decode cL_law 388 = .ok (.iconst 2, 1) := by decide +kernel
theorem dL_law_389 : decode cL_law 389 = .ok (.iadd, 1) := by decide +kernel
theorem dL_law_390 : decode cL_law 390 = .ok (.iaload, 1) := by decide +kernel
theorem dL_law_391 : decode cL_law 391 = .ok (.aload_n 0, 1) := by decide +kernel
theorem dL_law_392 : decode cL_law 392 = .ok (.iload_n 3, 1) := by decide +kernel
theorem dL_law_393 : decode cL_law 393 = .ok (.iconst 3, 1) := by decide +kernel
theorem dL_law_394 : decode cL_law 394 = .ok (.iadd, 1) := by decide +kernel
theorem dL_law_395 : decode cL_law 395 = .ok (.iaload, 1) := by decide +kernel
theorem dL_law_396 : decode cL_law 396 = .ok (.invokevirtual 44, 3) := by decide +kernel
theorem dL_law_399 : decode cL_law 399 = .ok (.if_icmp .eq 367, 3) := by decide +kernel
theorem dL_law_402 : decode cL_law 402 = .ok (.iconst 0, 1) := by decide +kernel
theorem dL_law_403 : decode cL_law 403 = .ok (.ireturn, 1) := by decide +kernel
theorem dL_law_404 : decode cL_law 404 = .ok (.aload_n 1, 1) := by decide +kernel
theorem dL_law_405 : decode cL_law 405 = .ok (.aload_n 0, 1) := by decide +kernel
theorem dL_law_406 : decode cL_law 406 = .ok (.iload_n 3, 1) := by decide +kernel
theorem dL_law_407 : decode cL_law 407 = .ok (.iconst 1, 1) := by decide +kernel
theorem dL_law_408 : decode cL_law 408 = .ok (.iadd, 1) := by decide +kernel
theorem dL_law_409 : decode cL_law 409 = .ok (.iaload, 1) := by decide +kernel
theorem dL_law_410 : decode cL_law 410 = .ok (.aload_n 0, 1) := by decide +kernel
theorem dL_law_411 : decode cL_law 411 = .ok (.iload_n 3, 1) := by decide +kernel
theorem dL_law_412 : decode cL_law 412 = .ok (.iconst 2, 1) := by decide +kernel
theorem dL_law_413 : decode cL_law 413 = .ok (.iadd, 1) := by decide +kernel
theorem dL_law_414 : decode cL_law 414 = .ok (.iaload, 1) := by decide +kernel
theorem dL_law_415 : decode cL_law 415 = .ok (.invokevirtual 45, 3) := by decide +kernel
theorem dL_law_418 : decode cL_law 418 = .ok (.aload_n 2, 1) := by decide +kernel
theorem dL_law_419 : decode cL_law 419 = .ok (.aload_n 0, 1) := by decide +kernel
theorem dL_law_420 : decode cL_law 420 = .ok (.iload_n 3, 1) := by decide +kernel
theorem dL_law_421 : decode cL_law 421 = .ok (.iconst 1, 1) := by decide +kernel
theorem dL_law_422 : decode cL_law 422 = .ok (.iadd, 1) := by decide +kernel
theorem dL_law_423 : decode cL_law 423 = .ok (.iaload, 1) := by decide +kernel
theorem dL_law_424 : decode cL_law 424 = .ok (.aload_n 0, 1) := by decide +kernel
theorem dL_law_425 : decode cL_law 425 = .ok (.iload_n 3, 1) := by decide +kernel
theorem dL_law_426 : decode cL_law 426 = .ok (.iconst 2, 1) := by decide +kernel
theorem dL_law_427 : decode cL_law 427 = .ok (.iadd, 1) := by decide +kernel
theorem dL_law_428 : decode cL_law 428 = .ok (.iaload, 1) := by decide +kernel
theorem dL_law_429 : decode cL_law 429 = .ok (.invokevirtual 48, 3) := by decide +kernel
theorem dL_law_432 : decode cL_law 432 = .ok (.if_icmp .eq 334, 3) := by decide +kernel
theorem dL_law_435 : decode cL_law 435 = .ok (.iconst 0, 1) := by decide +kernel
theorem dL_law_436 : decode cL_law 436 = .ok (.ireturn, 1) := by decide +kernel
theorem dL_law_437 : decode cL_law 437 = .ok (.aload_n 1, 1) := by decide +kernel
theorem dL_law_438 : decode cL_law 438 = .ok (.aload_n 0, 1) := by decide +kernel
theorem dL_law_439 : decode cL_law 439 = .ok (.iload_n 3, 1) := by decide +kernel
theorem dL_law_440 : decode cL_law 440 = .ok (.iconst 1, 1) := by decide +kernel
theorem dL_law_441 : decode cL_law 441 = .ok (.iadd, 1) := by decide +kernel
theorem dL_law_442 : decode cL_law 442 = .ok (.iaload, 1) := by decide +kernel
theorem dL_law_443 : decode cL_law 443 = .ok (.invokevirtual 49, 3) := by decide +kernel
theorem dL_law_446 : decode cL_law 446 = .ok (.aload_n 2, 1) := by decide +kernel
theorem dL_law_447 : decode cL_law 447 = .ok (.aload_n 0, 1) := by decide +kernel
theorem dL_law_448 : decode cL_law 448 = .ok (.iload_n 3, 1) := by decide +kernel
theorem dL_law_449 : decode cL_law 449 = .ok (.iconst 1, 1) := by decide +kernel
theorem dL_law_450 : decode cL_law 450 = .ok (.iadd, 1) := by decide +kernel
theorem dL_law_451 : decode cL_law 451 = .ok (.iaload, 1) := by decide +kernel
theorem dL_law_452 : decode cL_law 452 = .ok (.invokevirtual 52, 3) := by decide +kernel
theorem dL_law_455 : decode cL_law 455 = .ok (.if_icmp .eq 311, 3) := by decide +kernel
theorem dL_law_458 : decode cL_law 458 = .ok (.iconst 0, 1) := by decide +kernel
theorem dL_law_459 : decode cL_law 459 = .ok (.ireturn, 1) := by decide +kernel
theorem dL_law_460 : decode cL_law 460 = .ok (.aload_n 1, 1) := by decide +kernel
theorem dL_law_461 : decode cL_law 461 = .ok (.aload_n 0, 1) := by decide +kernel
theorem dL_law_462 : decode cL_law 462 = .ok (.iload_n 3, 1) := by decide +kernel
theorem dL_law_463 : decode cL_law 463 = .ok (.iconst 1, 1) := by decide +kernel
theorem dL_law_464 : decode cL_law 464 = .ok (.iadd, 1) := by decide +kernel
theorem dL_law_465 : decode cL_law 465 = .ok (.iaload, 1) := by decide +kernel
theorem dL_law_466 : decode cL_law 466 = .ok (.aload_n 0, 1) := by decide +kernel
theorem dL_law_467 : decode cL_law 467 = .ok (.iload_n 3, 1) := by decide +kernel
theorem dL_law_468 : decode cL_law 468 = .ok (.iconst 2, 1) := by decide +kernel
theorem dL_law_469 : decode cL_law 469 = .ok (.iadd, 1) := by decide +kernel
theorem dL_law_470 : decode cL_law 470 = .ok (.iaload, 1) := by decide +kernel
theorem dL_law_471 : decode cL_law 471 = .ok (.invokevirtual 53, 3) := by decide +kernel
theorem dL_law_474 : decode cL_law 474 = .ok (.aload_n 2, 1) := by decide +kernel
theorem dL_law_475 : decode cL_law 475 = .ok (.aload_n 0, 1) := by decide +kernel
theorem dL_law_476 : decode cL_law 476 = .ok (.iload_n 3, 1) := by decide +kernel
theorem dL_law_477 : decode cL_law 477 = .ok (.iconst 1, 1) := by decide +kernel
theorem dL_law_478 : decode cL_law 478 = .ok (.iadd, 1) := by decide +kernel
theorem dL_law_479 : decode cL_law 479 = .ok (.iaload, 1) := by decide +kernel
theorem dL_law_480 : decode cL_law 480 = .ok (.aload_n 0, 1) := by decide +kernel
theorem dL_law_481 : decode cL_law 481 = .ok (.iload_n 3, 1) := by decide +kernel
theorem dL_law_482 : decode cL_law 482 = .ok (.iconst 2, 1) := by decide +kernel
theorem dL_law_483 : decode cL_law 483 = .ok (.iadd, 1) := by decide +kernel
theorem dL_law_484 : decode cL_law 484 = .ok (.iaload, 1) := by decide +kernel
theorem dL_law_485 : decode cL_law 485 = .ok (.invokevirtual 56, 3) := by decide +kernel
theorem dL_law_488 : decode cL_law 488 = .ok (.if_icmp .eq 278, 3) := by decide +kernel
theorem dL_law_491 : decode cL_law 491 = .ok (.iconst 0, 1) := by decide +kernel
theorem dL_law_492 : decode cL_law 492 = .ok (.ireturn, 1) := by decide +kernel
theorem dL_law_493 : decode cL_law 493 = .ok (.aload_n 1, 1) := by decide +kernel
theorem dL_law_494 : decode cL_law 494 = .ok (.aload_n 0, 1) := by decide +kernel
theorem dL_law_495 : decode cL_law 495 = .ok (.iload_n 3, 1) := by decide +kernel
theorem dL_law_496 : decode cL_law 496 = .ok (.iconst 1, 1) := by decide +kernel
theorem dL_law_497 : decode cL_law 497 = .ok (.iadd, 1) := by decide +kernel
theorem dL_law_498 : decode cL_law 498 = .ok (.iaload, 1) := by decide +kernel
theorem dL_law_499 : decode cL_law 499 = .ok (.aload_n 0, 1) := by decide +kernel
theorem dL_law_500 : decode cL_law 500 = .ok (.iload_n 3, 1) := by decide +kernel
theorem dL_law_501 : decode cL_law 501 = .ok (.iconst 2, 1) := by decide +kernel
theorem dL_law_502 : decode cL_law 502 = .ok (.iadd, 1) := by decide +kernel
theorem dL_law_503 : decode cL_law 503 = .ok (.iaload, 1) := by decide +kernel
theorem dL_law_504 : decode cL_law 504 = .ok (.invokevirtual 57, 3) := by decide +kernel
theorem dL_law_507 : decode cL_law 507 = .ok (.aload_n 2, 1) := by decide +kernel
theorem dL_law_508 : decode cL_law 508 = .ok (.aload_n 0, 1) := by decide +kernel
theorem dL_law_509 : decode cL_law 509 = .ok (.iload_n 3, 1) := by decide +kernel
theorem dL_law_510 : decode cL_law 510 = .ok (.iconst 1, 1) := by decide +kernel
theorem dL_law_511 : decode cL_law 511 = .ok (.iadd, 1) := by decide +kernel
theorem dL_law_512 : decode cL_law 512 = .ok (.iaload, 1) := by decide +kernel
theorem dL_law_513 : decode cL_law 513 = .ok (.aload_n 0, 1) := by decide +kernel
theorem dL_law_514 : decode cL_law 514 = .ok (.iload_n 3, 1) := by decide +kernel
theorem dL_law_515 : decode cL_law 515 = .ok (.iconst 2, 1) := by decide +kernel
theorem dL_law_516 : decode cL_law 516 = .ok (.iadd, 1) := by decide +kernel
theorem dL_law_517 : decode cL_law 517 = .ok (.iaload, 1) := by decide +kernel
theorem dL_law_518 : decode cL_law 518 = .ok (.invokevirtual 60, 3) := by decide +kernel
theorem dL_law_521 : decode cL_law 521 = .ok (.if_icmp .eq 245, 3) := by decide +kernel
theorem dL_law_524 : decode cL_law 524 = .ok (.iconst 0, 1) := by decide +kernel
theorem dL_law_525 : decode cL_law 525 = .ok (.ireturn, 1) := by decide +kernel
theorem dL_law_526 : decode cL_law 526 = .ok (.aload_n 1, 1) := by decide +kernel
theorem dL_law_527 : decode cL_law 527 = .ok (.aload_n 0, 1) := by decide +kernel
theorem dL_law_528 : decode cL_law 528 = .ok (.iload_n 3, 1) := by decide +kernel
theorem dL_law_529 : decode cL_law 529 = .ok (.iconst 1, 1) := by decide +kernel
theorem dL_law_530 : decode cL_law 530 = .ok (.iadd, 1) := by decide +kernel
theorem dL_law_531 : decode cL_law 531 = .ok (.iaload, 1) := by decide +kernel
theorem dL_law_532 : decode cL_law 532 = .ok (.aload_n 0, 1) := by decide +kernel
theorem dL_law_533 : decode cL_law 533 = .ok (.iload_n 3, 1) := by decide +kernel
theorem dL_law_534 : decode cL_law 534 = .ok (.iconst 2, 1) := by decide +kernel
theorem dL_law_535 : decode cL_law 535 = .ok (.iadd, 1) := by decide +kernel
theorem dL_law_536 : decode cL_law 536 = .ok (.iaload, 1) := by decide +kernel
theorem dL_law_537 : decode cL_law 537 = .ok (.aload_n 0, 1) := by decide +kernel
theorem dL_law_538 : decode cL_law 538 = .ok (.iload_n 3, 1) := by decide +kernel
theorem dL_law_539 : decode cL_law 539 = .ok (.iconst 3, 1) := by decide +kernel
theorem dL_law_540 : decode cL_law 540 = .ok (.iadd, 1) := by decide +kernel
theorem dL_law_541 : decode cL_law 541 = .ok (.iaload, 1) := by decide +kernel
theorem dL_law_542 : decode cL_law 542 = .ok (.invokevirtual 61, 3) := by decide +kernel
theorem dL_law_545 : decode cL_law 545 = .ok (.aload_n 2, 1) := by decide +kernel
theorem dL_law_546 : decode cL_law 546 = .ok (.aload_n 0, 1) := by decide +kernel
theorem dL_law_547 : decode cL_law 547 = .ok (.iload_n 3, 1) := by decide +kernel
theorem dL_law_548 : decode cL_law 548 = .ok (.iconst 1, 1) := by decide +kernel
theorem dL_law_549 : decode cL_law 549 = .ok (.iadd, 1) := by decide +kernel
theorem dL_law_550 : decode cL_law 550 = .ok (.iaload, 1) := by decide +kernel
theorem dL_law_551 : decode cL_law 551 = .ok (.aload_n 0, 1) := by decide +kernel
theorem dL_law_552 : decode cL_law 552 = .ok (.iload_n 3, 1) := by decide +kernel
theorem dL_law_553 : decode cL_law 553 = .ok (.iconst 2, 1) := by decide +kernel
theorem dL_law_554 : decode cL_law 554 = .ok (.iadd, 1) := by decide +kernel
theorem dL_law_555 : decode cL_law 555 = .ok (.iaload, 1) := by decide +kernel
theorem dL_law_556 : decode cL_law 556 = .ok (.aload_n 0, 1) := by decide +kernel
theorem dL_law_557 : decode cL_law 557 = .ok (.iload_n 3, 1) := by decide +kernel
theorem dL_law_558 : decode cL_law 558 = .ok (.iconst 3, 1) := by decide +kernel
theorem dL_law_559 : decode cL_law 559 = .ok (.iadd, 1) := by decide +kernel
theorem dL_law_560 : decode cL_law 560 = .ok (.iaload, 1) := by decide +kernel
theorem dL_law_561 : decode cL_law 561 = .ok (.invokevirtual 64, 3) := by decide +kernel
theorem dL_law_564 : decode cL_law 564 = .ok (.if_icmp .eq 202, 3) := by decide +kernel
theorem dL_law_567 : decode cL_law 567 = .ok (.iconst 0, 1) := by decide +kernel
theorem dL_law_568 : decode cL_law 568 = .ok (.ireturn, 1) := by decide +kernel
theorem dL_law_569 : decode cL_law 569 = .ok (.aload_n 1, 1) := by decide +kernel
theorem dL_law_570 : decode cL_law 570 = .ok (.aload_n 0, 1) := by decide +kernel
theorem dL_law_571 : decode cL_law 571 = .ok (.iload_n 3, 1) := by decide +kernel
theorem dL_law_572 : decode cL_law 572 = .ok (.iconst 1, 1) := by decide +kernel
theorem dL_law_573 : decode cL_law 573 = .ok (.iadd, 1) := by decide +kernel
theorem dL_law_574 : decode cL_law 574 = .ok (.iaload, 1) := by decide +kernel
theorem dL_law_575 : decode cL_law 575 = .ok (.invokevirtual 65, 3) := by decide +kernel
theorem dL_law_578 : decode cL_law 578 = .ok (.aload_n 2, 1) := by decide +kernel
theorem dL_law_579 : decode cL_law 579 = .ok (.aload_n 0, 1) := by decide +kernel
theorem dL_law_580 : decode cL_law 580 = .ok (.iload_n 3, 1) := by decide +kernel
theorem dL_law_581 : decode cL_law 581 = .ok (.iconst 1, 1) := by decide +kernel
theorem dL_law_582 : decode cL_law 582 = .ok (.iadd, 1) := by decide +kernel
theorem dL_law_583 : decode cL_law 583 = .ok (.iaload, 1) := by decide +kernel
theorem dL_law_584 : decode cL_law 584 = .ok (.invokevirtual 68, 3) := by decide +kernel
theorem dL_law_587 : decode cL_law 587 = .ok (.if_icmp .eq 179, 3) := by decide +kernel
theorem dL_law_590 : decode cL_law 590 = .ok (.iconst 0, 1) := by decide +kernel
theorem dL_law_591 : decode cL_law 591 = .ok (.ireturn, 1) := by decide +kernel
theorem dL_law_592 : decode cL_law 592 = .ok (.aload_n 1, 1) := by decide +kernel
theorem dL_law_593 : decode cL_law 593 = .ok (.aload_n 0, 1) := by decide +kernel
theorem dL_law_594 : decode cL_law 594 = .ok (.iload_n 3, 1) := by decide +kernel
theorem dL_law_595 : decode cL_law 595 = .ok (.iconst 1, 1) := by decide +kernel
theorem dL_law_596 : decode cL_law 596 = .ok (.iadd, 1) := by decide +kernel
theorem dL_law_597 : decode cL_law 597 = .ok (.iaload, 1) := by decide +kernel
theorem dL_law_598 : decode cL_law 598 = .ok (.invokevirtual 69, 3) := by decide +kernel
theorem dL_law_601 : decode cL_law 601 = .ok (.aload_n 2, 1) := by decide +kernel
theorem dL_law_602 : decode cL_law 602 = .ok (.aload_n 0, 1) := by decide +kernel
theorem dL_law_603 : decode cL_law 603 = .ok (.iload_n 3, 1) := by decide +kernel
theorem dL_law_604 : decode cL_law 604 = .ok (.iconst 1, 1) := by decide +kernel
theorem dL_law_605 : decode cL_law 605 = .ok (.iadd, 1) := by decide +kernel
theorem dL_law_606 : decode cL_law 606 = .ok (.iaload, 1) := by decide +kernel
theorem dL_law_607 : decode cL_law 607 = .ok (.invokevirtual 72, 3) := by decide +kernel
theorem dL_law_610 : decode cL_law 610 = .ok (.if_icmp .eq 156, 3) := by decide +kernel
theorem dL_law_613 : decode cL_law 613 = .ok (.iconst 0, 1) := by decide +kernel
theorem dL_law_614 : decode cL_law 614 = .ok (.ireturn, 1) := by decide +kernel
theorem dL_law_615 : decode cL_law 615 = .ok (.aload_n 1, 1) := by decide +kernel
theorem dL_law_616 : decode cL_law 616 = .ok (.aload_n 0, 1) := by decide +kernel
theorem dL_law_617 : decode cL_law 617 = .ok (.iload_n 3, 1) := by decide +kernel
theorem dL_law_618 : decode cL_law 618 = .ok (.iconst 1, 1) := by decide +kernel
theorem dL_law_619 : decode cL_law 619 = .ok (.iadd, 1) := by decide +kernel
theorem dL_law_620 : decode cL_law 620 = .ok (.iaload, 1) := by decide +kernel
theorem dL_law_621 : decode cL_law 621 = .ok (.invokevirtual 73, 3) := by decide +kernel
theorem dL_law_624 : decode cL_law 624 = .ok (.aload_n 2, 1) := by decide +kernel
theorem dL_law_625 : decode cL_law 625 = .ok (.aload_n 0, 1) := by decide +kernel
theorem dL_law_626 : decode cL_law 626 = .ok (.iload_n 3, 1) := by decide +kernel
theorem dL_law_627 : decode cL_law 627 = .ok (.iconst 1, 1) := by decide +kernel
theorem dL_law_628 : decode cL_law 628 = .ok (.iadd, 1) := by decide +kernel
theorem dL_law_629 : decode cL_law 629 = .ok (.iaload, 1) := by decide +kernel
theorem dL_law_630 : decode cL_law 630 = .ok (.invokevirtual 76, 3) := by decide +kernel
theorem dL_law_633 : decode cL_law 633 = .ok (.if_icmp .eq 133, 3) := by decide +kernel
theorem dL_law_636 : decode cL_law 636 = .ok (.iconst 0, 1) := by decide +kernel
theorem dL_law_637 : decode cL_law 637 = .ok (.ireturn, 1) := by decide +kernel
theorem dL_law_638 : decode cL_law 638 = .ok (.aload_n 1, 1) := by decide +kernel
theorem dL_law_639 : decode cL_law 639 = .ok (.aload_n 0, 1) := by decide +kernel
theorem dL_law_640 : decode cL_law 640 = .ok (.iload_n 3, 1) := by decide +kernel
theorem dL_law_641 : decode cL_law 641 = .ok (.iconst 1, 1) := by decide +kernel
theorem dL_law_642 : decode cL_law 642 = .ok (.iadd, 1) := by decide +kernel
theorem dL_law_643 : decode cL_law 643 = .ok (.iaload, 1) := by decide +kernel
theorem dL_law_644 : decode cL_law 644 = .ok (.aload_n 0, 1) := by decide +kernel
theorem dL_law_645 : decode cL_law 645 = .ok (.iload_n 3, 1) := by decide +kernel
theorem dL_law_646 : decode cL_law 646 = .ok (.iconst 2, 1) := by decide +kernel
theorem dL_law_647 : decode cL_law 647 = .ok (.iadd, 1) := by decide +kernel
theorem dL_law_648 : decode cL_law 648 = .ok (.iaload, 1) := by decide +kernel
theorem dL_law_649 : decode cL_law 649 = .ok (.aload_n 0, 1) := by decide +kernel
theorem dL_law_650 : decode cL_law 650 = .ok (.iload_n 3, 1) := by decide +kernel
theorem dL_law_651 : decode cL_law 651 = .ok (.iconst 3, 1) := by decide +kernel
theorem dL_law_652 : decode cL_law 652 = .ok (.iadd, 1) := by decide +kernel
theorem dL_law_653 : decode cL_law 653 = .ok (.iaload, 1) := by decide +kernel
theorem dL_law_654 : decode cL_law 654 = .ok (.invokevirtual 77, 3) := by decide +kernel
theorem dL_law_657 : decode cL_law 657 = .ok (.aload_n 2, 1) := by decide +kernel
theorem dL_law_658 : decode cL_law 658 = .ok (.aload_n 0, 1) := by decide +kernel
theorem dL_law_659 : decode cL_law 659 = .ok (.iload_n 3, 1) := by decide +kernel
theorem dL_law_660 : decode cL_law 660 = .ok (.iconst 1, 1) := by decide +kernel
theorem dL_law_661 : decode cL_law 661 = .ok (.iadd, 1) := by decide +kernel
theorem dL_law_662 : decode cL_law 662 = .ok (.iaload, 1) := by decide +kernel
theorem dL_law_663 : decode cL_law 663 = .ok (.aload_n 0, 1) := by decide +kernel
theorem dL_law_664 : decode cL_law 664 = .ok (.iload_n 3, 1) := by decide +kernel
theorem dL_law_665 : decode cL_law 665 = .ok (.iconst 2, 1) := by decide +kernel
theorem dL_law_666 : decode cL_law 666 = .ok (.iadd, 1) := by decide +kernel
theorem dL_law_667 : decode cL_law 667 = .ok (.iaload, 1) := by decide +kernel
theorem dL_law_668 : decode cL_law 668 = .ok (.aload_n 0, 1) := by decide +kernel
theorem dL_law_669 : decode cL_law 669 = .ok (.iload_n 3, 1) := by decide +kernel
theorem dL_law_670 : decode cL_law 670 = .ok (.iconst 3, 1) := by decide +kernel
theorem dL_law_671 : decode cL_law 671 = .ok (.iadd, 1) := by decide +kernel
theorem dL_law_672 : decode cL_law 672 = .ok (.iaload, 1) := by decide +kernel
theorem dL_law_673 : decode cL_law 673 = .ok (.invokevirtual 80, 3) := by decide +kernel
theorem dL_law_676 : decode cL_law 676 = .ok (.if_icmp .eq 90, 3) := by decide +kernel
theorem dL_law_679 : decode cL_law 679 = .ok (.iconst 0, 1) := by decide +kernel
theorem dL_law_680 : decode cL_law 680 = .ok (.ireturn, 1) := by decide +kernel
theorem dL_law_681 : decode cL_law 681 = .ok (.aload_n 1, 1) := by decide +kernel
theorem dL_law_682 : decode cL_law 682 = .ok (.invokevirtual 81, 3) := by decide +kernel
theorem dL_law_685 : decode cL_law 685 = .ok (.aload_n 2, 1) := by decide +kernel
theorem dL_law_686 : decode cL_law 686 = .ok (.invokevirtual 85, 3) := by decide +kernel
theorem dL_law_689 : decode cL_law 689 = .ok (.if_icmp .eq 77, 3) := by decide +kernel
theorem dL_law_692 : decode cL_law 692 = .ok (.iconst 0, 1) := by decide +kernel
theorem dL_law_693 : decode cL_law 693 = .ok (.ireturn, 1) := by decide +kernel
theorem dL_law_694 : decode cL_law 694 = .ok (.aload_n 1, 1) := by decide +kernel
theorem dL_law_695 : decode cL_law 695 = .ok (.aload_n 0, 1) := by decide +kernel
theorem dL_law_696 : decode cL_law 696 = .ok (.iload_n 3, 1) := by decide +kernel
theorem dL_law_697 : decode cL_law 697 = .ok (.iconst 1, 1) := by decide +kernel
theorem dL_law_698 : decode cL_law 698 = .ok (.iadd, 1) := by decide +kernel
theorem dL_law_699 : decode cL_law 699 = .ok (.iaload, 1) := by decide +kernel
theorem dL_law_700 : decode cL_law 700 = .ok (.invokevirtual 86, 3) := by decide +kernel
theorem dL_law_703 : decode cL_law 703 = .ok (.aload_n 2, 1) := by decide +kernel
theorem dL_law_704 : decode cL_law 704 = .ok (.aload_n 0, 1) := by decide +kernel
theorem dL_law_705 : decode cL_law 705 = .ok (.iload_n 3, 1) := by decide +kernel
theorem dL_law_706 : decode cL_law 706 = .ok (.iconst 1, 1) := by decide +kernel
theorem dL_law_707 : decode cL_law 707 = .ok (.iadd, 1) := by decide +kernel
theorem dL_law_708 : decode cL_law 708 = .ok (.iaload, 1) := by decide +kernel
theorem dL_law_709 : decode cL_law 709 = .ok (.invokevirtual 89, 3) := by decide +kernel
theorem dL_law_712 : decode cL_law 712 = .ok (.if_icmp .eq 54, 3) := by decide +kernel
theorem dL_law_715 : decode cL_law 715 = .ok (.iconst 0, 1) := by decide +kernel
theorem dL_law_716 : decode cL_law 716 = .ok (.ireturn, 1) := by decide +kernel
theorem dL_law_717 : decode cL_law 717 = .ok (.aload_n 1, 1) := by decide +kernel
theorem dL_law_718 : decode cL_law 718 = .ok (.invokevirtual 90, 3) := by decide +kernel
theorem dL_law_721 : decode cL_law 721 = .ok (.aload_n 2, 1) := by decide +kernel
theorem dL_law_722 : decode cL_law 722 = .ok (.invokevirtual 93, 3) := by decide +kernel
theorem dL_law_725 : decode cL_law 725 = .ok (.if_icmp .eq 41, 3) := by decide +kernel
theorem dL_law_728 : decode cL_law 728 = .ok (.iconst 0, 1) := by decide +kernel
theorem dL_law_729 : decode cL_law 729 = .ok (.ireturn, 1) := by decide +kernel
theorem dL_law_730 : decode cL_law 730 = .ok (.aload_n 1, 1) := by decide +kernel
theorem dL_law_731 : decode cL_law 731 = .ok (.aload_n 0, 1) := by decide +kernel
theorem dL_law_732 : decode cL_law 732 = .ok (.iload_n 3, 1) := by decide +kernel
theorem dL_law_733 : decode cL_law 733 = .ok (.iconst 1, 1) := by decide +kernel
theorem dL_law_734 : decode cL_law 734 = .ok (.iadd, 1) := by decide +kernel
theorem dL_law_735 : decode cL_law 735 = .ok (.iaload, 1) := by decide +kernel
theorem dL_law_736 : decode cL_law 736 = .ok (.invokevirtual 94, 3) := by decide +kernel
theorem dL_law_739 : decode cL_law 739 = .ok (.aload_n 2, 1) := by decide +kernel
theorem dL_law_740 : decode cL_law 740 = .ok (.aload_n 0, 1) := by decide +kernel
theorem dL_law_741 : decode cL_law 741 = .ok (.iload_n 3, 1) := by decide +kernel
theorem dL_law_742 : decode cL_law 742 = .ok (.iconst 1, 1) := by decide +kernel
theorem dL_law_743 : decode cL_law 743 = .ok (.iadd, 1) := by decide +kernel
theorem dL_law_744 : decode cL_law 744 = .ok (.iaload, 1) := by decide +kernel
theorem dL_law_745 : decode cL_law 745 = .ok (.invokevirtual 97, 3) := by decide +kernel
theorem dL_law_748 : decode cL_law 748 = .ok (.if_icmp .eq 18, 3) := by decide +kernel
theorem dL_law_751 : decode cL_law 751 = .ok (.iconst 0, 1) := by decide +kernel
theorem dL_law_752 : decode cL_law 752 = .ok (.ireturn, 1) := by decide +kernel
theorem dL_law_753 : decode cL_law 753 = .ok (.aload_n 1, 1) := by decide +kernel
theorem dL_law_754 : decode cL_law 754 = .ok (.invokevirtual 98, 3) := by decide +kernel
theorem dL_law_757 : decode cL_law 757 = .ok (.aload_n 2, 1) := by decide +kernel
theorem dL_law_758 : decode cL_law 758 = .ok (.invokevirtual 101, 3) := by decide +kernel
theorem dL_law_761 : decode cL_law 761 = .ok (.if_icmp .eq 5, 3) := by decide +kernel
theorem dL_law_764 : decode cL_law 764 = .ok (.iconst 0, 1) := by decide +kernel
theorem dL_law_765 : decode cL_law 765 = .ok (.ireturn, 1) := by decide +kernel
theorem dL_law_766 : decode cL_law 766 = .ok (.iinc 3 4, 3) := by decide +kernel
theorem dL_law_769 : decode cL_law 769 = .ok (.goto (-751), 3) := by decide +kernel
theorem dL_law_772 : decode cL_law 772 = .ok (.iconst 1, 1) := by decide +kernel
theorem dL_law_773 : decode cL_law 773 = .ok (.ireturn, 1) := by decide +kernel
end
section
/-! THE PURE WORLD: every method is walked over tables of what each cell holds: kinds and lengths T, references r, longs l, ints i, by address and place. -/
def gnest : Cond → Bool
  | .fieldLinkNest .. => true
  | .methodLinkNest .. => true
  | _ => false
def gw : List Cond := lw_tbl.filter goodWord
def gnw : List Cond := tables_1.filter gnest
theorem gw_in {w : Cond} (i : Nat) (h : lw_tbl[i]? = some w) (hg : goodWord w = true) : w ∈ gw := List.mem_filter.mpr ⟨List.mem_of_getElem? h, hg⟩
theorem gnw_in {w : Cond} (i : Nat) (h : tables_1[i]? = some w) (hg : gnest w = true) : w ∈ gnw := List.mem_filter.mpr ⟨List.mem_of_getElem? h, hg⟩
theorem gw_good : GoodIn gw gw := fun _ h => ⟨h, good_of_word (List.mem_filter.mp h).2⟩
theorem gnw_warm {w : Cond} (hw : w ∈ gnw) {s U : State} (hW : s.WarmedH U.vm) (h : va_Nw w s) : va_Nw w U := by
  have hg := (List.mem_filter.mp hw).2
  cases w <;> first | exact va_Nw.warmF hW h | exact va_Nw.warmM hW h | (simp [gnest] at hg; done)
theorem gnw_same {w : Cond} (hw : w ∈ gnw) {u U : State} (e : u.vm = U.vm) (h : va_Nw w u) : va_Nw w U := by
  have hg := (List.mem_filter.mp hw).2
  cases w <;> first | exact va_Nw.same rfl e h | (simp [gnest] at hg; done)
abbrev gG : Type := Launch × va_G × (ClassId × ClassId × ClassId × ClassId) × Nat × Nat × Nat
abbrev gD (Γ : gG) : va_G := Γ.2.1
abbrev gcI (Γ : gG) : ClassId := Γ.2.2.1.1
abbrev gcZ (Γ : gG) : ClassId := Γ.2.2.1.2.1
abbrev gcS (Γ : gG) : ClassId := Γ.2.2.1.2.2.1
abbrev gcW (Γ : gG) : ClassId := Γ.2.2.1.2.2.2
abbrev gN (Γ : gG) : Nat := Γ.2.2.2.1
abbrev gaL (Γ : gG) : Nat := Γ.2.2.2.2.1
abbrev gaG (Γ : gG) : Nat := Γ.2.2.2.2.2
def gA (Γ : gG) : Nat → Prop := fun q => gN Γ ≤ q
def gtys (Γ : gG) : List (ClassId × FieldType) := [(gcI Γ, .int), (gcZ Γ, .boolean), (gcS Γ, .object RX6), (gcW Γ, .object RX9)]
def gTT (Γ : gG) (U : State) : Prop := (∀ w ∈ gnw, va_Nw w U) ∧ va_K (gD Γ) vwCl (gtys Γ) U ∧ va_AO RX6 U ∧ va_AO RX9 U
def gZZ (Γ : gG) (U : State) (H : Heap) : Prop := va_Z RX4 "LEAST" "[I" (.ref (gaL Γ)) (gA Γ) U H ∧ va_Z RX4 "GREATEST" "[I" (.ref (gaG Γ)) (gA Γ) U H
theorem gTT.warm {Γ : gG} {s U : State} (hW : s.WarmedH U.vm) (h : gTT Γ s) : gTT Γ U := ⟨fun w hw => gnw_warm hw hW (h.1 w hw), va_K.moved hW.alike h.2.1, h.2.2.1.moved hW.alike, h.2.2.2.moved hW.alike⟩
theorem gTT.same {Γ : gG} {u U : State} (e : u.vm = U.vm) (h : gTT Γ u) : gTT Γ U := by
  have ha : u.vm.Alike U.vm := by rw [e]; exact Vm.Alike.refl _
  exact ⟨fun w hw => gnw_same hw e (h.1 w hw), va_K.moved ha h.2.1, h.2.2.1.moved ha, h.2.2.2.moved ha⟩
theorem gZZ.moved {Γ : gG} {s U : State} {H H1 : Heap} (ha : s.vm.Alike U.vm) (hq : ∀ a : Nat, a < H.size → ¬ gA Γ a → H1[a]? = H[a]?) (h : gZZ Γ s H) : gZZ Γ U H1 := ⟨(h.1.moved ha).kept hq, (h.2.moved ha).kept hq⟩
/-- the types of a class's fields: 0 a reference, 1 an int, 2 a long -/
def gT : Nat → List Nat
  | 0 => [0, 1, 1, 1]
  | 1 => [0, 1, 1]
  | 2 => [0, 0]
  | 3 => [0, 1, 1, 1, 1, 1, 1, 1]
  | 4 => [0]
  | 5 => [2, 2, 2]
  | 6 => [0, 0, 0]
  | 7 => [0, 0, 0, 1]
  | 8 => [0, 1]
  | 9 => [0, 0, 0, 0, 1, 1, 1, 1, 1, 1]
  | 10 => [0, 0, 0, 1]
  | 11 => [0, 0, 0, 0, 0]
  | 12 => [0, 0, 0, 1, 0, 1, 1, 1, 1, 0, 1, 1]
  | _ => []
def gV (t : Nat) (r : Option Nat) (l : Int64) (i : Int32) : Value := match t with
  | 0 => va_rf r
  | 1 => .int i
  | _ => .long l
def gF : List Nat → Nat → (Nat → Option Nat) → (Nat → Int64) → (Nat → Int32) → List Value
  | [], _, _, _, _ => []
  | t :: ts, j, r, l, i => gV t (r j) (l j) (i j) :: gF ts (j + 1) r l i
theorem gF_get : ∀ (ts : List Nat) (j : Nat) (r : Nat → Option Nat) (l : Nat → Int64) (i : Nat → Int32) (k : Nat), (gF ts j r l i)[k]? = (ts[k]?).map (fun t => gV t (r (j + k)) (l (j + k)) (i (j + k)))
  | [], _, _, _, _, _ => by simp [gF]
  | t :: ts, j, r, l, i, 0 => by simp [gF]
  | t :: ts, j, r, l, i, k + 1 => by
    rw [gF, List.getElem?_cons_succ, List.getElem?_cons_succ, gF_get ts (j + 1) r l i k, show j + 1 + k = j + (k + 1) by omega]
theorem gF_len : ∀ (ts : List Nat) (j : Nat) (r : Nat → Option Nat) (l : Nat → Int64) (i : Nat → Int32), (gF ts j r l i).length = ts.length
  | [], _, _, _, _ => rfl
  | _ :: ts, j, r, l, i => by rw [gF, List.length_cons, List.length_cons, gF_len ts]
theorem gF_at (ts : List Nat) (r : Nat → Option Nat) (l : Nat → Int64) (i : Nat → Int32) (k : Nat) : vp_V (gF ts 0 r l i) k = ((ts[k]?).map (fun t => gV t (r k) (l k) (i k))).getD .null := by
  unfold vp_V
  rw [List.getD_eq_getElem?_getD, gF_get, Nat.zero_add]
def gE (Γ : gG) (k n : Nat) (r : Nat → Option Nat) (l : Nat → Int64) (i : Nat → Int32) : Option va_E :=
  if k < 13 then some (.inr (k, gF (gT k) 0 r l i)) else if k = 13 then some (.inl (gcI Γ, n, .inl i)) else if k = 14 then some (.inl (gcZ Γ, n, .inl i)) else if k = 15 then some (.inl (gcS Γ, n, .inr (.inr (.inr (.inr r))))) else if k = 16 then some (.inl (gcW Γ, n, .inr (.inr (.inr (.inr r))))) else none
abbrev gTy : Type := Nat × (Nat → Nat × Nat)
abbrev gR : Type := Nat → Nat → Option Nat
abbrev gLg : Type := Nat → Nat → Int64
abbrev gI : Type := Nat → Nat → Int32
def gPW (Γ : gG) (T : gTy) (r : gR) (l : gLg) (i : gI) (H : Heap) : Prop := H.size = T.1 ∧ gN Γ ≤ T.1 ∧ ∀ (a : Nat) (e : va_E), gE Γ (T.2 a).1 (T.2 a).2 (r a) (l a) (i a) = some e → va_at (gD Γ) vwCl (a, e) H
theorem gPW.obj {Γ : gG} {T : gTy} {r : gR} {l : gLg} {i : gI} {H : Heap} (h : gPW Γ T r l i H) {a ci : Nat} (hk : (T.2 a).1 = ci) (hlt : ci < 13) : va_at (gD Γ) vwCl (a, .inr (ci, gF (gT ci) 0 (r a) (l a) (i a))) H := h.2.2 a _ (by unfold gE; rw [hk, if_pos hlt])
theorem gPW.ints {Γ : gG} {T : gTy} {r : gR} {l : gLg} {i : gI} {H : Heap} (h : gPW Γ T r l i H) {a n : Nat} (hk : T.2 a = (13, n)) : va_at (gD Γ) vwCl (a, .inl (gcI Γ, n, .inl (i a))) H := h.2.2 a _ (by unfold gE; rw [hk]; rfl)
theorem gPW.bools {Γ : gG} {T : gTy} {r : gR} {l : gLg} {i : gI} {H : Heap} (h : gPW Γ T r l i H) {a n : Nat} (hk : T.2 a = (14, n)) : va_at (gD Γ) vwCl (a, .inl (gcZ Γ, n, .inl (i a))) H := h.2.2 a _ (by unfold gE; rw [hk]; rfl)
theorem gPW.refs {Γ : gG} {T : gTy} {r : gR} {l : gLg} {i : gI} {H : Heap} (h : gPW Γ T r l i H) {a n z : Nat} (hz : z = 15 ∨ z = 16) (hk : T.2 a = (z, n)) : va_at (gD Γ) vwCl (a, .inl ((if z = 15 then gcS Γ else gcW Γ), n, .inr (.inr (.inr (.inr (r a)))))) H := h.2.2 a _ (by unfold gE; rw [hk]; rcases hz with rfl | rfl <;> rfl)
theorem gP1 {D : va_G} {cl : List vw_C} {q : Nat × va_E} {H : Heap} (h : va_at D cl q H) : va_P D cl [q] H := fun k x hk => by
  cases k with
  | zero => cases hk; exact h
  | succ k => simp at hk
/-- one cell is written: the others stay -/
theorem gPW.put {Γ : gG} {T : gTy} {r r' : gR} {l : gLg} {i i' : gI} {H H1 : Heap} {a : Nat} (h : gPW Γ T r l i H) (z : H1.size = H.size) (oq : ∀ q : Nat, q ≠ a → H1[q]? = H[q]?) (hr : ∀ b, b ≠ a → r' b = r b) (hi : ∀ b, b ≠ a → i' b = i b) (ha : ∀ e : va_E, gE Γ (T.2 a).1 (T.2 a).2 (r' a) (l a) (i' a) = some e → va_at (gD Γ) vwCl (a, e) H1) : gPW Γ T r' l i' H1 := by
  refine ⟨z.trans h.1, h.2.1, fun b e hb => ?_⟩
  by_cases hba : b = a
  · subst hba
    exact ha e hb
  · rw [hr b hba, hi b hba] at hb
    exact (h.2.2 b e hb).kept (oq b hba)
theorem gPW.putL {Γ : gG} {T : gTy} {r : gR} {l l' : gLg} {i : gI} {H H1 : Heap} {a : Nat} (h : gPW Γ T r l i H) (z : H1.size = H.size) (oq : ∀ q : Nat, q ≠ a → H1[q]? = H[q]?) (hl : ∀ b, b ≠ a → l' b = l b) (ha : ∀ e : va_E, gE Γ (T.2 a).1 (T.2 a).2 (r a) (l' a) (i a) = some e → va_at (gD Γ) vwCl (a, e) H1) : gPW Γ T r l' i H1 := by
  refine ⟨z.trans h.1, h.2.1, fun b e hb => ?_⟩
  by_cases hba : b = a
  · subst hba
    exact ha e hb
  · rw [hl b hba] at hb
    exact (h.2.2 b e hb).kept (oq b hba)
/-- one cell is made, behind the others -/
theorem gPW.new {Γ : gG} {T : gTy} {r : gR} {l : gLg} {i : gI} {H H1 : Heap} {kn : Nat × Nat} {r1 : Nat → Option Nat} {l1 : Nat → Int64} {i1 : Nat → Int32} (h : gPW Γ T r l i H) (z : H1.size = H.size + 1) (oq : ∀ q : Nat, q < H.size → H1[q]? = H[q]?) (ha : ∀ e : va_E, gE Γ kn.1 kn.2 r1 l1 i1 = some e → va_at (gD Γ) vwCl (H.size, e) H1) : gPW Γ (T.1 + 1, va_up T.2 T.1 kn) (va_up r T.1 r1) (va_up l T.1 l1) (va_up i T.1 i1) H1 := by
  refine ⟨by rw [z, h.1], Nat.le_succ_of_le h.2.1, fun b e hb => ?_⟩
  by_cases hba : b = T.1
  · subst hba
    simp only [va_up, if_pos rfl] at hb
    have := ha e hb
    rw [h.1] at this
    exact this
  · simp only [va_up, if_neg hba] at hb
    have h1 := h.2.2 b e hb
    exact h1.kept (oq b h1.lt)
abbrev gM : Type := MethodName × ByteArray × Nat × Option FieldType × Room
abbrev gMw (M : gM) : List Cond := .code M.1 M.2.1 M.2.2.1 M.2.2.2.1 :: gw
def gFix (Γ : gG) (M : gM) (p : Program) (s : State) (m : MethodId) (args : Array Value) (meth : Method) (c : Code) : Prop := p.tables.exec = Jvm.exec ∧ c.code = M.2.1 ∧ c.maxLocals = M.2.2.1 ∧ s.vm.findClass M.1.cls = some m.cls ∧ (∀ w ∈ gw, w.before args s = true) ∧ gTT Γ s ∧ gZZ Γ s s.heap ∧ (M.1.name = "<init>" → meth.name = "<init>")
def gRi : Option Value → Instr
  | none => .return_
  | some (.int _) => .ireturn
  | some (.long _) => .lreturn
  | _ => .areturn
def gRet (ret : Option FieldType) : Option Value → Prop
  | none => ret = none
  | some (.int a) => ∃ ty, ret = some ty ∧ narrow ty (.int a) = .int a
  | some (.long _) => ret = some .long
  | some (.ref _) => ∃ rt, ret = some rt ∧ ((∃ n, rt = .object n) ∨ ∃ t, rt = .array t)
  | some .null => ∃ rt, ret = some rt ∧ ((∃ n, rt = .object n) ∨ ∃ t, rt = .array t)
  | _ => False
abbrev gQ : Type := Option Value → gTy → gR → gLg → gI → Prop
def gEx (Γ : gG) (M : gM) (p : Program) (e : Env) (s : State) (m : MethodId) (args : Array Value) (below : List Frame) (meth : Method) (c : Code) (X : State → Prop) (Q : gQ) : Prop :=
  ∀ (v : Option Value) (T : gTy) (r : gR) (l : gLg) (i : gI) (H : Heap) (locs : List Loc) (k n pc : Nat) (ls : Array Slot), Q v T r l i → k ≤ M.2.2.2.2.cells → n ≤ M.2.2.2.2.slots → gPW Γ T r l i H → va_S (gA Γ) s.heap H locs → gRet M.2.2.2.1 v → decode M.2.1 pc = .ok (gRi v, 1) → W p Γ.1 e M.2.2.2.2 s m args below meth c H locs k n X (F0 m pc ls v.toList)
/-- from this point of method M the walk comes to its end, with Q of the answer and the world -/
def G (Γ : gG) (M : gM) (k n pc : Nat) (L : List (Nat × Value)) (st : List Value) (T : gTy) (r : gR) (l : gLg) (i : gI) (Q : gQ) : Prop :=
  ∀ (p : Program) (e : Env) (s : State) (m : MethodId) (args : Array Value) (below : List Frame) (meth : Method) (c : Code) (H : Heap) (locs : List Loc) (ls : Array Slot) (X : State → Prop), gFix Γ M p s m args meth c → lv_has ls M.2.2.1 L → gPW Γ T r l i H → va_S (gA Γ) s.heap H locs → gEx Γ M p e s m args below meth c X Q → W p Γ.1 e M.2.2.2.2 s m args below meth c H locs k n X (F0 m pc ls st)
def gQc (Γ : gG) (Q : gQ) : Array Value → State → Outcome → State → Prop := fun _ st o t => (∃ (v : Option Value) (T : gTy) (r : gR) (l : gLg) (i : gI), o = .returned v ∧ Q v T r l i ∧ gPW Γ T r l i t.heap) ∧ va_F (gA Γ) st t
def gPc (Γ : gG) (av : List Value) (T : gTy) (r : gR) (l : gLg) (i : gI) : Array Value → State → Prop := va_Pc av (fun U => gPW Γ T r l i U.heap ∧ gTT Γ U ∧ gZZ Γ U U.heap)
/-- a call of method M with av over this world comes back with Q -/
def gC (Γ : gG) (M : gM) (av : List Value) (T : gTy) (r : gR) (l : gLg) (i : gI) (Q : gQ) : Prop := Met Γ.1 M.1 (gMw M) M.2.2.2.2 (gPc Γ av T r l i) (gQc Γ Q) M.2.2.2.2.cells M.2.2.2.2.slots (gA Γ)
theorem gC_of {Γ : gG} {M : gM} {av : List Value} {T : gTy} {r : gR} {l : gLg} {i : gI} {Q : gQ} (hpl : plainName M.1.cls = true) (hlen : (lg_sl av).length ≤ M.2.2.1) {L : List (Nat × Value)} (hL : lv_args 0 av = L) (h : G Γ M 0 0 0 L [] T r l i Q) : gC Γ M av T r l i Q := by
  refine Met.ofW (cc := M.2.1) (maxL := M.2.2.1) (ret := M.2.2.2.1) hpl rfl ?_
  intro p e s m args below meth c s₁ B hml hv
  obtain ⟨rfl, hPW, hTT, hZZ⟩ := hv
  have hx := B.exec
  have hb := B.bytes
  have hr := B.returns
  have hts := atoms_spec (ws := gMw M) B.pre
  have hown : s.vm.findClass M.1.cls = some m.cls := findClass_of_methodNamed B.named
  have hlocks := B.notSynchronized
  have hl := lv_entry av (n := M.2.2.1) hlen
  rw [hL] at hl
  rw [lg_entry_eq]
  refine h p e s m _ below meth c s.heap [] _ _ ⟨hx, hb, hml, hown, fun w hw => hts w (List.mem_cons_of_mem _ hw), hTT, hZZ, fun hn => (name_of_methodNamed B.named B.method).1.trans hn⟩ hl hPW va_S.rf ?_
  intro v T r l i H locs k n pc ls hQ hk hn hP hS hR hd
  refine W.widen hk hn ?_
  match v, hR, hd, hQ with
  | none, hR, hd, hQ => exact W.vret hx hb (hr.trans hR) (fun t ht _ => ⟨⟨none, T, r, l, i, rfl, hQ, by rw [ht]; exact hP⟩, hS.F ht⟩) hS.2.2 hd
  | some (.int a), ⟨ty, h1, h2⟩, hd, hQ => exact W.zret hx hb (hr.trans h1) h2 (fun t ht _ => ⟨⟨some (.int a), T, r, l, i, rfl, hQ, by rw [ht]; exact hP⟩, hS.F ht⟩) hS.2.2 hd
  | some (.long a), hR, hd, hQ => exact W.lret hx hb (hr.trans hR) (fun t ht _ => ⟨⟨some (.long a), T, r, l, i, rfl, hQ, by rw [ht]; exact hP⟩, hS.F ht⟩) hS.2.2 hd
  | some (.ref a), ⟨rt, h1, h2⟩, hd, hQ => exact W.aret hx hb (hr.trans h1) h2 (Or.inr ⟨a, rfl⟩) (fun t ht _ => ⟨⟨some (.ref a), T, r, l, i, rfl, hQ, by rw [ht]; exact hP⟩, hS.F ht⟩) hS.2.2 hd
  | some .null, ⟨rt, h1, h2⟩, hd, hQ => exact W.aret hx hb (hr.trans h1) h2 (Or.inl rfl) (fun t ht _ => ⟨⟨some .null, T, r, l, i, rfl, hQ, by rw [ht]; exact hP⟩, hS.F ht⟩) hS.2.2 hd
theorem gC.mono {Γ : gG} {M : gM} {av : List Value} {T : gTy} {r : gR} {l : gLg} {i : gI} {Q Q' : gQ} (h : gC Γ M av T r l i Q) (hQ : ∀ v T r l i, Q v T r l i → Q' v T r l i) : gC Γ M av T r l i Q' := by
  unfold gC at h ⊢
  intro p e ha hc hk s m args below hf hsp hPc hK
  obtain ⟨k, o, h1, h2, h3, ⟨⟨⟨v, T1, r1, l1, i1, q1, q2, q3⟩, q4⟩, q5⟩⟩ := h p e ha hc hk s m args below hf hsp hPc hK
  exact ⟨k, o, h1, h2, h3, ⟨⟨⟨v, T1, r1, l1, i1, q1, hQ _ _ _ _ _ q2, q3⟩, q4⟩, q5⟩⟩
theorem gPc_blind {Γ : gG} {av : List Value} {T : gTy} {r : gR} {l : gLg} {i : gI} : FrameBlind (gPc Γ av T r l i) := fun a U g mk h => ⟨h.1, h.2.1, gTT.same (u := U) (U := U.calling g mk a) rfl h.2.2.1, gZZ.moved (s := U) (U := U.calling g mk a) (Vm.Alike.refl U.vm) (fun _ _ _ => rfl) h.2.2.2⟩
section GCALL
variable {Γ : gG} {M N : gM} {p : Program} {e : Env} {s : State} {m : MethodId} {args : Array Value} {below : List Frame} {meth : Method} {c : Code} {H : Heap} {locs : List Loc} {k n : Nat} {X : State → Prop} {T : gTy} {r : gR} {l : gLg} {i : gI}
theorem gPre {As : List Value} (F : gFix Γ M p s m args meth c) (hP : gPW Γ T r l i H) (hS : va_S (gA Γ) s.heap H locs) : PreS s H (gPc Γ As T r l i) As := ⟨gPc_blind, fun U hU hW => ⟨rfl, by rw [hU]; exact hP, gTT.warm hW F.2.2.2.2.2.1, gZZ.moved hW.alike (fun a h1 h2 => by rw [hU]; exact hS.2.1 a h1 h2) F.2.2.2.2.2.2.1⟩⟩
theorem gBack {Q : gQ} {a : Array Value} {pc : Nat} {ls : Array Slot} {rest st0 : List Value} {mc ms : Nat} (hr : va_Run p Γ.1 e M.2.2.2.2 s m args below meth c H locs k n mc ms (F0 m pc ls st0) rest (gQc Γ Q a) (gA Γ)) (hS : va_S (gA Γ) s.heap H locs)
    (kk : ∀ (v : Option Value) (T1 : gTy) (r1 : gR) (l1 : gLg) (i1 : gI) (H1 : Heap) (locs1 : List Loc), Q v T1 r1 l1 i1 → gPW Γ T1 r1 l1 i1 H1 → va_S (gA Γ) s.heap H1 locs1 → W p Γ.1 e M.2.2.2.2 s m args below meth c H1 locs1 (k + mc) (n + ms) X (F0 m (pc + 3) ls (v.toList ++ rest))) : W p Γ.1 e M.2.2.2.2 s m args below meth c H locs k n X (F0 m pc ls st0) := by
  intro U hU XX
  obtain ⟨v, st₀, t, U', L, h0, X', hL, e1, e2, ⟨⟨v', T1, r1, l1, i1, hv, hQ, hP⟩, hz, hk⟩, st⟩ := hr U hU XX
  cases hv
  rw [h0] at hz hk
  obtain ⟨t2, a1, b1⟩ := kk v T1 r1 l1 i1 U'.heap (locs ++ L) hQ (by rw [e1]; exact hP) ⟨Nat.le_trans hS.1 (by rw [e1]; exact hz), fun q h1 h2 => by rw [e1, hk q (Nat.lt_of_lt_of_le h1 hS.1) h2]; exact hS.2.1 q h1 h2, fun q hq => by
      rcases List.mem_append.mp hq with h | h
      · exact hS.2.2 q h
      · exact hL q h⟩ U' rfl X'
  exact ⟨t2, st t2 a1, b1⟩
end GCALL
/-- what a call needs of the tables: virtual (ci: the receiver's class), static, constructor; in the class itself or across the nest -/
def gLk (own : String) (idx : Nat) (N : gM) (np : Nat) : Prop := (Cond.code N.1 N.2.1 N.2.2.1 N.2.2.2.1 ∈ gw ∧ Cond.initialized N.1.cls ∈ gw ∧ (N.1.cls ≠ "java/lang/invoke/MethodHandle" ∧ N.1.cls ≠ "java/lang/invoke/VarHandle" ∧ (parseMethodDescriptor N.1.desc).map (fun d => d.parameters.length) = some np)) ∧ (Cond.methodLink own idx N.1 ∈ gw ∨ ∃ host, Cond.methodLinkNest own idx N.1 host ∈ gnw)
def gLkV (own : String) (idx : Nat) (N : gM) (np ci : Nat) : Prop := gLk own idx N np ∧ Cond.instanceMethod N.1 ∈ gw ∧ Cond.selects N.1.cls N.1 N.1 ∈ gw ∧ ci < 13 ∧ ∃ (Tb : u_T) (nn : Nat), vwCl[ci]? = some (N.1.cls, Tb, nn)
def gLkS (own : String) (idx : Nat) (N : gM) (np : Nat) : Prop := gLk own idx N np ∧ Cond.static N.1 ∈ gw
def gLkI (own : String) (idx : Nat) (N : gM) (np : Nat) : Prop := gLk own idx N np ∧ Cond.instanceMethod N.1 ∈ gw ∧ N.1.name = "<init>" ∧ N.2.2.2.1 = none
abbrev gFits (R rm : Room) (nL : Nat) : Prop := rm.frames + 1 ≤ R.frames ∧ 8 + (nL + 11) + rm.locals ≤ R.locals
section GCALL2
variable {Γ : gG} {M N : gM} {p : Program} {e : Env} {s : State} {m : MethodId} {args : Array Value} {below : List Frame} {meth : Method} {c : Code} {H : Heap} {locs : List Loc} {k n : Nat} {X : State → Prop} {T : gTy} {r : gR} {l : gLg} {i : gI}
theorem gMw_good : GoodIn gw (gMw N) ∨ True := Or.inr trivial
theorem gCallB (F : gFix Γ M p s m args meth c) {idx np : Nat} (hl : gLk M.1.cls idx N np) (hR : gFits M.2.2.2.2 N.2.2.2.2 N.2.2.1) :
    (∃ _ : True, Cond.methodLink M.1.cls idx N.1 ∈ gw ∧ CallB M.2.2.2.2 s args M.1.cls idx N.1 N.2.1 N.2.2.1 N.2.2.2.1 (gMw N) N.2.2.2.2 N.2.2.2.2.cells N.2.2.2.2.slots np) ∨ (∃ host, va_CN M.2.2.2.2 s args M.1.cls idx N.1 host N.2.1 N.2.2.1 N.2.2.2.1 (gMw N) N.2.2.2.2 N.2.2.2.2.cells N.2.2.2.2.slots np) := by
  obtain ⟨⟨hc, hi, hd⟩, hl⟩ := hl
  have hG : GoodIn gw (gMw N) := fun w hw => by
    rcases List.mem_cons.mp hw with rfl | h
    · exact gw_good _ hc
    · exact gw_good _ h
  rcases hl with hl | ⟨host, hl⟩
  · exact Or.inl ⟨trivial, hl, callB_of np F.2.2.2.2.1 hG rfl rfl rfl (F.2.2.2.2.1 _ hi) (F.2.2.2.2.1 _ hl) hd hR⟩
  · exact Or.inr ⟨host, va_cnB np F.2.2.2.2.1 hG rfl rfl rfl (F.2.2.2.2.2.1.1 _ hl) (F.2.2.2.2.1 _ hi) hd hR⟩
end GCALL2
abbrev gCat (st : List Value) : Nat := (st.map fun v => v.category).sum
section GRULE
variable {Γ : gG} {M N : gM} {k n pc : Nat} {L : List (Nat × Value)} {st : List Value} {T : gTy} {r : gR} {l : gLg} {i : gI} {Q : gQ}
theorem G_callV {idx np ci b : Nat} {As rest : List Value} (hd : decode M.2.1 pc = .ok (.invokevirtual idx, 3)) (hl : gLkV M.1.cls idx N np ci) (hn : As.length = np) (hR : gFits M.2.2.2.2 N.2.2.2.2 N.2.2.1) (hc : gCat rest ≤ 8) (hf : k + N.2.2.2.2.cells ≤ M.2.2.2.2.cells ∧ n + N.2.2.2.2.slots ≤ M.2.2.2.2.slots) (hb : (T.2 b).1 = ci)
    (h : gC Γ N (.ref b :: As) T r l i (fun v T1 r1 l1 i1 => G Γ M (k + N.2.2.2.2.cells) (n + N.2.2.2.2.slots) (pc + 3) L (v.toList ++ rest) T1 r1 l1 i1 Q)) : G Γ M k n pc L (As.reverse ++ .ref b :: rest) T r l i Q := by
  intro p e s m args below meth c H locs ls X F hls hP hS hE
  obtain ⟨hlk, hin, hsel, hci, Tb, nn, hcl⟩ := hl
  have hrecv := va_recv (q0 := 0) F.2.2.2.2.2.1.2.1 (gP1 (hP.obj hb hci)) hcl rfl
  have hpre := gPre (As := .ref b :: As) F hP hS
  rcases gCallB F hlk hR with ⟨-, -, cb⟩ | ⟨host, cb⟩
  · refine gBack (va_runV ⟨F.1, F.2.1, F.2.2.1, F.2.2.2.1, F.2.2.2.2.1⟩ h ⟨cb, F.2.2.2.2.1 _ hin, F.2.2.2.2.1 _ hsel⟩ ⟨hpre.1, hrecv, hpre.2⟩ rfl hn hls.1 rfl (lv_room hc) hd hf) hS ?_
    intro v T1 r1 l1 i1 H1 locs1 hG hP1 hS1
    exact hG p e s m args below meth c H1 locs1 ls X F hls hP1 hS1 hE
  · refine gBack (va_runVN ⟨F.1, F.2.1, F.2.2.1, F.2.2.2.1, F.2.2.2.2.1⟩ h ⟨cb, F.2.2.2.2.1 _ hin, F.2.2.2.2.1 _ hsel⟩ ⟨hpre.1, hrecv, hpre.2⟩ rfl hn hls.1 rfl (lv_room hc) hd hf) hS ?_
    intro v T1 r1 l1 i1 H1 locs1 hG hP1 hS1
    exact hG p e s m args below meth c H1 locs1 ls X F hls hP1 hS1 hE
theorem G_callS {idx np : Nat} {As rest : List Value} (hd : decode M.2.1 pc = .ok (.invokestatic idx, 3)) (hl : gLkS M.1.cls idx N np) (hn : As.length = np) (hR : gFits M.2.2.2.2 N.2.2.2.2 N.2.2.1) (hc : gCat rest ≤ 8) (hf : k + N.2.2.2.2.cells ≤ M.2.2.2.2.cells ∧ n + N.2.2.2.2.slots ≤ M.2.2.2.2.slots)
    (h : gC Γ N As T r l i (fun v T1 r1 l1 i1 => G Γ M (k + N.2.2.2.2.cells) (n + N.2.2.2.2.slots) (pc + 3) L (v.toList ++ rest) T1 r1 l1 i1 Q)) : G Γ M k n pc L (As.reverse ++ rest) T r l i Q := by
  intro p e s m args below meth c H locs ls X F hls hP hS hE
  obtain ⟨hlk, hst⟩ := hl
  have hpre := gPre (As := As) F hP hS
  rcases gCallB F hlk hR with ⟨-, -, cb⟩ | ⟨host, cb⟩
  · refine gBack (va_runS ⟨F.1, F.2.1, F.2.2.1, F.2.2.2.1, F.2.2.2.2.1⟩ h ⟨cb, F.2.2.2.2.1 _ hst⟩ hpre rfl hn hls.1 rfl (lv_room hc) hd hf) hS ?_
    intro v T1 r1 l1 i1 H1 locs1 hG hP1 hS1
    exact hG p e s m args below meth c H1 locs1 ls X F hls hP1 hS1 hE
  · refine gBack (va_runSN ⟨F.1, F.2.1, F.2.2.1, F.2.2.2.1, F.2.2.2.2.1⟩ h ⟨cb, F.2.2.2.2.1 _ hst, trivial⟩ hpre rfl hn hls.1 rfl (lv_room hc) hd hf) hS ?_
    intro v T1 r1 l1 i1 H1 locs1 hG hP1 hS1
    exact hG p e s m args below meth c H1 locs1 ls X F hls hP1 hS1 hE
theorem G_callI {idx np b : Nat} {As rest : List Value} (hd : decode M.2.1 pc = .ok (.invokespecial idx, 3)) (hl : gLkI M.1.cls idx N np) (hn : As.length = np) (hR : gFits M.2.2.2.2 N.2.2.2.2 N.2.2.1) (hc : gCat rest ≤ 8) (hf : k + N.2.2.2.2.cells ≤ M.2.2.2.2.cells ∧ n + N.2.2.2.2.slots ≤ M.2.2.2.2.slots)
    (h : gC Γ N (.ref b :: As) T r l i (fun v T1 r1 l1 i1 => G Γ M (k + N.2.2.2.2.cells) (n + N.2.2.2.2.slots) (pc + 3) L (v.toList ++ rest) T1 r1 l1 i1 Q)) : G Γ M k n pc L (As.reverse ++ .ref b :: rest) T r l i Q := by
  intro p e s m args below meth c H locs ls X F hls hP hS hE
  obtain ⟨hlk, hin, hnm, hrt⟩ := hl
  have hpre := gPre (As := .ref b :: As) F hP hS
  rcases gCallB F hlk hR with ⟨-, -, cb⟩ | ⟨host, cb⟩
  · rw [hrt] at cb
    have cb2 : CallB M.2.2.2.2 s args M.1.cls idx N.1 N.2.1 N.2.2.1 none (gMw N) N.2.2.2.2 N.2.2.2.2.cells N.2.2.2.2.slots np := cb
    refine gBack (va_runI ⟨F.1, F.2.1, F.2.2.1, F.2.2.2.1, F.2.2.2.2.1⟩ h ⟨cb2, hnm, F.2.2.2.2.1 _ hin⟩ hpre rfl hn hls.1 rfl (lv_room hc) hd hf) hS ?_
    intro v T1 r1 l1 i1 H1 locs1 hG hP1 hS1
    exact hG p e s m args below meth c H1 locs1 ls X F hls hP1 hS1 hE
  · rw [hrt] at cb
    refine gBack (va_runIN ⟨F.1, F.2.1, F.2.2.1, F.2.2.2.1, F.2.2.2.2.1⟩ h ⟨cb, hnm, F.2.2.2.2.1 _ hin⟩ hpre rfl hn hls.1 rfl (lv_room hc) hd hf) hS ?_
    intro v T1 r1 l1 i1 H1 locs1 hG hP1 hS1
    exact hG p e s m args below meth c H1 locs1 ls X F hls hP1 hS1 hE
end GRULE
end
section
/-! A rule an instruction. k n: cells and slots made so far; L: the locals; st: the stack. -/
section GR
variable {Γ : gG} {M N : gM} {k n pc : Nat} {L : List (Nat × Value)} {st : List Value} {T : gTy} {r : gR} {l : gLg} {i : gI} {Q : gQ}
theorem G_iconst {z : Int} {v : Int32} (hd : decode M.2.1 pc = .ok (.iconst z, 1)) (hv : Int32.ofInt z = v) (kk : G Γ M k n (pc + 1) L (.int v :: st) T r l i Q) : G Γ M k n pc L st T r l i Q := fun p e s m args below meth c H locs ls X F hls hP hS hE => lv_iconst F.1 F.2.1 hd hv (kk p e s m args below meth c H locs ls X F hls hP hS hE)
theorem G_bipush {z : Int} {v : Int32} (hd : decode M.2.1 pc = .ok (.bipush z, 2)) (hv : (Int8.ofInt z).toInt32 = v) (kk : G Γ M k n (pc + 2) L (.int v :: st) T r l i Q) : G Γ M k n pc L st T r l i Q := fun p e s m args below meth c H locs ls X F hls hP hS hE => lv_bipush F.1 F.2.1 hd hv (kk p e s m args below meth c H locs ls X F hls hP hS hE)
theorem G_sipush {z : Int} {v : Int32} (hd : decode M.2.1 pc = .ok (.sipush z, 3)) (hv : (Int16.ofInt z).toInt32 = v) (kk : G Γ M k n (pc + 3) L (.int v :: st) T r l i Q) : G Γ M k n pc L st T r l i Q := fun p e s m args below meth c H locs ls X F hls hP hS hE => lv_sipush F.1 F.2.1 hd hv (kk p e s m args below meth c H locs ls X F hls hP hS hE)
theorem G_lconst {z : Fin 2} {v : Int64} (hd : decode M.2.1 pc = .ok (.lconst z, 1)) (hv : Int64.ofNat (z : Nat) = v) (kk : G Γ M k n (pc + 1) L (.long v :: st) T r l i Q) : G Γ M k n pc L st T r l i Q := fun p e s m args below meth c H locs ls X F hls hP hS hE => lv_lconst F.1 F.2.1 hd hv (kk p e s m args below meth c H locs ls X F hls hP hS hE)
theorem G_ldc {idx : Nat} {v : Int32} (hd : decode M.2.1 pc = .ok (.ldc idx, 2)) (hc : Cond.constant M.1.cls idx v ∈ gw) (kk : G Γ M k n (pc + 2) L (.int v :: st) T r l i Q) : G Γ M k n pc L st T r l i Q := fun p e s m args below meth c H locs ls X F hls hP hS hE => lv_ldc F.1 F.2.1 F.2.2.2.1 (F.2.2.2.2.1 _ hc) hd (kk p e s m args below meth c H locs ls X F hls hP hS hE)
theorem G_ldcw {idx : Nat} {v : Int32} (hd : decode M.2.1 pc = .ok (.ldc_w idx, 3)) (hc : Cond.constant M.1.cls idx v ∈ gw) (kk : G Γ M k n (pc + 3) L (.int v :: st) T r l i Q) : G Γ M k n pc L st T r l i Q := fun p e s m args below meth c H locs ls X F hls hP hS hE => lv_ldcw F.1 F.2.1 F.2.2.2.1 (F.2.2.2.2.1 _ hc) hd (kk p e s m args below meth c H locs ls X F hls hP hS hE)
theorem G_ldcf {idx : Nat} {v : UInt32} (hd : decode M.2.1 pc = .ok (.ldc idx, 2)) (hc : Cond.constantFloat M.1.cls idx v ∈ gw) (kk : G Γ M k n (pc + 2) L (.float v :: st) T r l i Q) : G Γ M k n pc L st T r l i Q := fun p e s m args below meth c H locs ls X F hls hP hS hE => lv_ldcf F.1 F.2.1 F.2.2.2.1 (F.2.2.2.2.1 _ hc) hd (kk p e s m args below meth c H locs ls X F hls hP hS hE)
theorem G_ldc2 {idx : Nat} {v : Int64} (hd : decode M.2.1 pc = .ok (.ldc2_w idx, 3)) (hc : Cond.constantLong M.1.cls idx v ∈ gw) (kk : G Γ M k n (pc + 3) L (.long v :: st) T r l i Q) : G Γ M k n pc L st T r l i Q := fun p e s m args below meth c H locs ls X F hls hP hS hE => lv_ldc2 F.1 F.2.1 F.2.2.2.1 (F.2.2.2.2.1 _ hc) hd (kk p e s m args below meth c H locs ls X F hls hP hS hE)
theorem G_iload_n {q : Fin 4} {x : Int32} (p0 : Nat) (hd : decode M.2.1 pc = .ok (.iload_n q, 1)) (hl : L[p0]? = some ((q : Nat), .int x)) (kk : G Γ M k n (pc + 1) L (.int x :: st) T r l i Q) : G Γ M k n pc L st T r l i Q := fun p e s m args below meth c H locs ls X F hls hP hS hE => lv_iload_n F.1 F.2.1 hd rfl (lv_at hls p0 hl) (kk p e s m args below meth c H locs ls X F hls hP hS hE)
theorem G_iload {q : Nat} {x : Int32} (p0 : Nat) (hd : decode M.2.1 pc = .ok (.iload q, 2)) (hl : L[p0]? = some (q, .int x)) (kk : G Γ M k n (pc + 2) L (.int x :: st) T r l i Q) : G Γ M k n pc L st T r l i Q := fun p e s m args below meth c H locs ls X F hls hP hS hE => lv_iload F.1 F.2.1 hd (lv_at hls p0 hl) (kk p e s m args below meth c H locs ls X F hls hP hS hE)
theorem G_lload_n {q : Fin 4} {x : Int64} (p0 : Nat) (hd : decode M.2.1 pc = .ok (.lload_n q, 1)) (hl : L[p0]? = some ((q : Nat), .long x)) (kk : G Γ M k n (pc + 1) L (.long x :: st) T r l i Q) : G Γ M k n pc L st T r l i Q := fun p e s m args below meth c H locs ls X F hls hP hS hE => lv_lload_n F.1 F.2.1 hd rfl (lv_at hls p0 hl) (kk p e s m args below meth c H locs ls X F hls hP hS hE)
theorem G_lload {q : Nat} {x : Int64} (p0 : Nat) (hd : decode M.2.1 pc = .ok (.lload q, 2)) (hl : L[p0]? = some (q, .long x)) (kk : G Γ M k n (pc + 2) L (.long x :: st) T r l i Q) : G Γ M k n pc L st T r l i Q := fun p e s m args below meth c H locs ls X F hls hP hS hE => lv_lload F.1 F.2.1 hd (lv_at hls p0 hl) (kk p e s m args below meth c H locs ls X F hls hP hS hE)
theorem G_aload_n {q : Fin 4} {x : Nat} (p0 : Nat) (hd : decode M.2.1 pc = .ok (.aload_n q, 1)) (hl : L[p0]? = some ((q : Nat), .ref x)) (kk : G Γ M k n (pc + 1) L (.ref x :: st) T r l i Q) : G Γ M k n pc L st T r l i Q := fun p e s m args below meth c H locs ls X F hls hP hS hE => lv_aload_n F.1 F.2.1 hd rfl (lv_at hls p0 hl) (kk p e s m args below meth c H locs ls X F hls hP hS hE)
theorem G_aload {q : Nat} {x : Nat} (p0 : Nat) (hd : decode M.2.1 pc = .ok (.aload q, 2)) (hl : L[p0]? = some (q, .ref x)) (kk : G Γ M k n (pc + 2) L (.ref x :: st) T r l i Q) : G Γ M k n pc L st T r l i Q := fun p e s m args below meth c H locs ls X F hls hP hS hE => lv_aload F.1 F.2.1 hd (lv_at hls p0 hl) (kk p e s m args below meth c H locs ls X F hls hP hS hE)
theorem G_fload_n {q : Fin 4} {x : UInt32} (p0 : Nat) (hd : decode M.2.1 pc = .ok (.fload_n q, 1)) (hl : L[p0]? = some ((q : Nat), .float x)) (kk : G Γ M k n (pc + 1) L (.float x :: st) T r l i Q) : G Γ M k n pc L st T r l i Q := fun p e s m args below meth c H locs ls X F hls hP hS hE => lv_fload_n F.1 F.2.1 hd rfl (lv_at hls p0 hl) (kk p e s m args below meth c H locs ls X F hls hP hS hE)
theorem G_aload_nN {q : Fin 4} (p0 : Nat) (hd : decode M.2.1 pc = .ok (.aload_n q, 1)) (hl : L[p0]? = some ((q : Nat), .null)) (kk : G Γ M k n (pc + 1) L (.null :: st) T r l i Q) : G Γ M k n pc L st T r l i Q := fun p e s m args below meth c H locs ls X F hls hP hS hE => lv_aload_nN F.1 F.2.1 hd rfl (lv_at hls p0 hl) (kk p e s m args below meth c H locs ls X F hls hP hS hE)
theorem G_aloadN {q : Nat} (p0 : Nat) (hd : decode M.2.1 pc = .ok (.aload q, 2)) (hl : L[p0]? = some (q, .null)) (kk : G Γ M k n (pc + 2) L (.null :: st) T r l i Q) : G Γ M k n pc L st T r l i Q := fun p e s m args below meth c H locs ls X F hls hP hS hE => lv_aloadN F.1 F.2.1 hd (lv_at hls p0 hl) (kk p e s m args below meth c H locs ls X F hls hP hS hE)
theorem G_iadd {x y : Int32} (hd : decode M.2.1 pc = .ok (.iadd, 1)) (kk : G Γ M k n (pc + 1) L (.int (x + y) :: st) T r l i Q) : G Γ M k n pc L (.int y :: .int x :: st) T r l i Q := fun p e s m args below meth c H locs ls X F hls hP hS hE => lv_iadd F.1 F.2.1 hd (kk p e s m args below meth c H locs ls X F hls hP hS hE)
theorem G_isub {x y : Int32} (hd : decode M.2.1 pc = .ok (.isub, 1)) (kk : G Γ M k n (pc + 1) L (.int (x - y) :: st) T r l i Q) : G Γ M k n pc L (.int y :: .int x :: st) T r l i Q := fun p e s m args below meth c H locs ls X F hls hP hS hE => lv_isub F.1 F.2.1 hd (kk p e s m args below meth c H locs ls X F hls hP hS hE)
theorem G_imul {x y : Int32} (hd : decode M.2.1 pc = .ok (.imul, 1)) (kk : G Γ M k n (pc + 1) L (.int (x * y) :: st) T r l i Q) : G Γ M k n pc L (.int y :: .int x :: st) T r l i Q := fun p e s m args below meth c H locs ls X F hls hP hS hE => lv_imul F.1 F.2.1 hd (kk p e s m args below meth c H locs ls X F hls hP hS hE)
theorem G_iand {x y : Int32} (hd : decode M.2.1 pc = .ok (.iand, 1)) (kk : G Γ M k n (pc + 1) L (.int (x &&& y) :: st) T r l i Q) : G Γ M k n pc L (.int y :: .int x :: st) T r l i Q := fun p e s m args below meth c H locs ls X F hls hP hS hE => lv_iand F.1 F.2.1 hd (kk p e s m args below meth c H locs ls X F hls hP hS hE)
theorem G_ior {x y : Int32} (hd : decode M.2.1 pc = .ok (.ior, 1)) (kk : G Γ M k n (pc + 1) L (.int (x ||| y) :: st) T r l i Q) : G Γ M k n pc L (.int y :: .int x :: st) T r l i Q := fun p e s m args below meth c H locs ls X F hls hP hS hE => lv_ior F.1 F.2.1 hd (kk p e s m args below meth c H locs ls X F hls hP hS hE)
theorem G_idiv {x y : Int32} (hd : decode M.2.1 pc = .ok (.idiv, 1)) (hne : ¬ y = 0) (kk : G Γ M k n (pc + 1) L (.int (x / y) :: st) T r l i Q) : G Γ M k n pc L (.int y :: .int x :: st) T r l i Q := fun p e s m args below meth c H locs ls X F hls hP hS hE => lv_idiv F.1 F.2.1 hd hne (kk p e s m args below meth c H locs ls X F hls hP hS hE)
theorem G_irem {x y : Int32} (hd : decode M.2.1 pc = .ok (.irem, 1)) (hne : ¬ y = 0) (kk : G Γ M k n (pc + 1) L (.int (x - x / y * y) :: st) T r l i Q) : G Γ M k n pc L (.int y :: .int x :: st) T r l i Q := fun p e s m args below meth c H locs ls X F hls hP hS hE => lv_irem F.1 F.2.1 hd hne (kk p e s m args below meth c H locs ls X F hls hP hS hE)
theorem G_ishl {x y : Int32} (hd : decode M.2.1 pc = .ok (.ishl, 1)) (kk : G Γ M k n (pc + 1) L (.int (x <<< (y &&& 31)) :: st) T r l i Q) : G Γ M k n pc L (.int y :: .int x :: st) T r l i Q := fun p e s m args below meth c H locs ls X F hls hP hS hE => lv_ishl F.1 F.2.1 hd (kk p e s m args below meth c H locs ls X F hls hP hS hE)
theorem G_ishr {x y : Int32} (hd : decode M.2.1 pc = .ok (.ishr, 1)) (kk : G Γ M k n (pc + 1) L (.int (x >>> (y &&& 31)) :: st) T r l i Q) : G Γ M k n pc L (.int y :: .int x :: st) T r l i Q := fun p e s m args below meth c H locs ls X F hls hP hS hE => lv_ishr F.1 F.2.1 hd (kk p e s m args below meth c H locs ls X F hls hP hS hE)
theorem G_ladd {x y : Int64} (hd : decode M.2.1 pc = .ok (.ladd, 1)) (kk : G Γ M k n (pc + 1) L (.long (x + y) :: st) T r l i Q) : G Γ M k n pc L (.long y :: .long x :: st) T r l i Q := fun p e s m args below meth c H locs ls X F hls hP hS hE => lv_ladd F.1 F.2.1 hd (kk p e s m args below meth c H locs ls X F hls hP hS hE)
theorem G_lsub {x y : Int64} (hd : decode M.2.1 pc = .ok (.lsub, 1)) (kk : G Γ M k n (pc + 1) L (.long (x - y) :: st) T r l i Q) : G Γ M k n pc L (.long y :: .long x :: st) T r l i Q := fun p e s m args below meth c H locs ls X F hls hP hS hE => lv_lsub F.1 F.2.1 hd (kk p e s m args below meth c H locs ls X F hls hP hS hE)
theorem G_lmul {x y : Int64} (hd : decode M.2.1 pc = .ok (.lmul, 1)) (kk : G Γ M k n (pc + 1) L (.long (x * y) :: st) T r l i Q) : G Γ M k n pc L (.long y :: .long x :: st) T r l i Q := fun p e s m args below meth c H locs ls X F hls hP hS hE => lv_lmul F.1 F.2.1 hd (kk p e s m args below meth c H locs ls X F hls hP hS hE)
theorem G_ldiv {x y : Int64} (hd : decode M.2.1 pc = .ok (.ldiv, 1)) (hne : ¬ y = 0) (kk : G Γ M k n (pc + 1) L (.long (x / y) :: st) T r l i Q) : G Γ M k n pc L (.long y :: .long x :: st) T r l i Q := fun p e s m args below meth c H locs ls X F hls hP hS hE => lv_ldiv F.1 F.2.1 hd hne (kk p e s m args below meth c H locs ls X F hls hP hS hE)
theorem G_ineg {x : Int32} (hd : decode M.2.1 pc = .ok (.ineg, 1)) (kk : G Γ M k n (pc + 1) L (.int (-x) :: st) T r l i Q) : G Γ M k n pc L (.int x :: st) T r l i Q := fun p e s m args below meth c H locs ls X F hls hP hS hE => lv_ineg F.1 F.2.1 hd (kk p e s m args below meth c H locs ls X F hls hP hS hE)
theorem G_lneg {x : Int64} (hd : decode M.2.1 pc = .ok (.lneg, 1)) (kk : G Γ M k n (pc + 1) L (.long (-x) :: st) T r l i Q) : G Γ M k n pc L (.long x :: st) T r l i Q := fun p e s m args below meth c H locs ls X F hls hP hS hE => lv_lneg F.1 F.2.1 hd (kk p e s m args below meth c H locs ls X F hls hP hS hE)
theorem G_i2l {x : Int32} (hd : decode M.2.1 pc = .ok (.i2l, 1)) (kk : G Γ M k n (pc + 1) L (.long x.toInt64 :: st) T r l i Q) : G Γ M k n pc L (.int x :: st) T r l i Q := fun p e s m args below meth c H locs ls X F hls hP hS hE => lv_i2l F.1 F.2.1 hd rfl (kk p e s m args below meth c H locs ls X F hls hP hS hE)
theorem G_l2i {x : Int64} (hd : decode M.2.1 pc = .ok (.l2i, 1)) (kk : G Γ M k n (pc + 1) L (.int x.toInt32 :: st) T r l i Q) : G Γ M k n pc L (.long x :: st) T r l i Q := fun p e s m args below meth c H locs ls X F hls hP hS hE => lv_l2i F.1 F.2.1 hd rfl (kk p e s m args below meth c H locs ls X F hls hP hS hE)
theorem G_lshr {x : Int64} {y : Int32} (hd : decode M.2.1 pc = .ok (.lshr, 1)) (kk : G Γ M k n (pc + 1) L (.long (x >>> (y.toInt64 &&& 63)) :: st) T r l i Q) : G Γ M k n pc L (.int y :: .long x :: st) T r l i Q := fun p e s m args below meth c H locs ls X F hls hP hS hE => lv_lshr F.1 F.2.1 hd rfl (kk p e s m args below meth c H locs ls X F hls hP hS hE)
theorem G_i2f {x : Int32} (hd : decode M.2.1 pc = .ok (.i2f, 1)) (kk : G Γ M k n (pc + 1) L (.float (FP.i2f x) :: st) T r l i Q) : G Γ M k n pc L (.int x :: st) T r l i Q := fun p e s m args below meth c H locs ls X F hls hP hS hE => lv_i2f F.1 F.2.1 hd (kk p e s m args below meth c H locs ls X F hls hP hS hE)
theorem G_fdiv {x y : UInt32} (hd : decode M.2.1 pc = .ok (.fdiv, 1)) (hne : vf_n32 (FP.fdiv x y)) (kk : G Γ M k n (pc + 1) L (.float (FP.fdiv x y) :: st) T r l i Q) : G Γ M k n pc L (.float y :: .float x :: st) T r l i Q := fun p e s m args below meth c H locs ls X F hls hP hS hE => lv_fdiv F.1 F.2.1 hd hne (kk p e s m args below meth c H locs ls X F hls hP hS hE)
theorem G_fcmp {x y : UInt32} {op : CmpOp} (hd : decode M.2.1 pc = .ok (.fcmp op, 1)) (kk : G Γ M k n (pc + 1) L (.int (Op.cmpValue (FP.fcmp x y) op) :: st) T r l i Q) : G Γ M k n pc L (.float y :: .float x :: st) T r l i Q := fun p e s m args below meth c H locs ls X F hls hP hS hE => lv_fcmp F.1 F.2.1 hd (kk p e s m args below meth c H locs ls X F hls hP hS hE)
theorem G_dup {v : Value} (hd : decode M.2.1 pc = .ok (.dup, 1)) (hv : v.category = 1) (kk : G Γ M k n (pc + 1) L (v :: v :: st) T r l i Q) : G Γ M k n pc L (v :: st) T r l i Q := fun p e s m args below meth c H locs ls X F hls hP hS hE => lv_dup F.1 F.2.1 hd hv (kk p e s m args below meth c H locs ls X F hls hP hS hE)
theorem G_pop {v : Value} (hd : decode M.2.1 pc = .ok (.pop, 1)) (hv : v.category = 1) (kk : G Γ M k n (pc + 1) L st T r l i Q) : G Γ M k n pc L (v :: st) T r l i Q := fun p e s m args below meth c H locs ls X F hls hP hS hE => lv_pop F.1 F.2.1 hd hv (kk p e s m args below meth c H locs ls X F hls hP hS hE)
theorem G_dup2 {v u : Value} (hd : decode M.2.1 pc = .ok (.dup2, 1)) (hv : v.category = 1) (hu : u.category = 1) (kk : G Γ M k n (pc + 1) L (v :: u :: v :: u :: st) T r l i Q) : G Γ M k n pc L (v :: u :: st) T r l i Q := fun p e s m args below meth c H locs ls X F hls hP hS hE => lv_dup2_11 F.1 F.2.1 hd hv hu (kk p e s m args below meth c H locs ls X F hls hP hS hE)
theorem G_if_eq {x : Int32} {off : Int} {tgt : Nat} (hd : decode M.2.1 pc = .ok (.ifCond .eq off, 3)) (ht : (pc : Int) + off = (tgt : Int)) (kt : x = 0 → G Γ M k n tgt L st T r l i Q) (kf : ¬ x = 0 → G Γ M k n (pc + 3) L st T r l i Q) : G Γ M k n pc L (.int x :: st) T r l i Q := fun p e s m args below meth c H locs ls X F hls hP hS hE => lv_if_eq F.1 F.2.1 hd ht (fun h => kt h p e s m args below meth c H locs ls X F hls hP hS hE) (fun h => kf h p e s m args below meth c H locs ls X F hls hP hS hE)
theorem G_if_ne {x : Int32} {off : Int} {tgt : Nat} (hd : decode M.2.1 pc = .ok (.ifCond .ne off, 3)) (ht : (pc : Int) + off = (tgt : Int)) (kt : ¬ x = 0 → G Γ M k n tgt L st T r l i Q) (kf : x = 0 → G Γ M k n (pc + 3) L st T r l i Q) : G Γ M k n pc L (.int x :: st) T r l i Q := fun p e s m args below meth c H locs ls X F hls hP hS hE => lv_if_ne F.1 F.2.1 hd ht (fun h => kt h p e s m args below meth c H locs ls X F hls hP hS hE) (fun h => kf h p e s m args below meth c H locs ls X F hls hP hS hE)
theorem G_if_lt {x : Int32} {off : Int} {tgt : Nat} (hd : decode M.2.1 pc = .ok (.ifCond .lt off, 3)) (ht : (pc : Int) + off = (tgt : Int)) (kt : x < 0 → G Γ M k n tgt L st T r l i Q) (kf : ¬ x < 0 → G Γ M k n (pc + 3) L st T r l i Q) : G Γ M k n pc L (.int x :: st) T r l i Q := fun p e s m args below meth c H locs ls X F hls hP hS hE => lv_if_lt F.1 F.2.1 hd ht (fun h => kt h p e s m args below meth c H locs ls X F hls hP hS hE) (fun h => kf h p e s m args below meth c H locs ls X F hls hP hS hE)
theorem G_if_ge {x : Int32} {off : Int} {tgt : Nat} (hd : decode M.2.1 pc = .ok (.ifCond .ge off, 3)) (ht : (pc : Int) + off = (tgt : Int)) (kt : 0 ≤ x → G Γ M k n tgt L st T r l i Q) (kf : ¬ 0 ≤ x → G Γ M k n (pc + 3) L st T r l i Q) : G Γ M k n pc L (.int x :: st) T r l i Q := fun p e s m args below meth c H locs ls X F hls hP hS hE => lv_if_ge F.1 F.2.1 hd ht (fun h => kt h p e s m args below meth c H locs ls X F hls hP hS hE) (fun h => kf h p e s m args below meth c H locs ls X F hls hP hS hE)
theorem G_if_gt {x : Int32} {off : Int} {tgt : Nat} (hd : decode M.2.1 pc = .ok (.ifCond .gt off, 3)) (ht : (pc : Int) + off = (tgt : Int)) (kt : 0 < x → G Γ M k n tgt L st T r l i Q) (kf : ¬ 0 < x → G Γ M k n (pc + 3) L st T r l i Q) : G Γ M k n pc L (.int x :: st) T r l i Q := fun p e s m args below meth c H locs ls X F hls hP hS hE => lv_if_gt F.1 F.2.1 hd ht (fun h => kt h p e s m args below meth c H locs ls X F hls hP hS hE) (fun h => kf h p e s m args below meth c H locs ls X F hls hP hS hE)
theorem G_if_le {x : Int32} {off : Int} {tgt : Nat} (hd : decode M.2.1 pc = .ok (.ifCond .le off, 3)) (ht : (pc : Int) + off = (tgt : Int)) (kt : x ≤ 0 → G Γ M k n tgt L st T r l i Q) (kf : ¬ x ≤ 0 → G Γ M k n (pc + 3) L st T r l i Q) : G Γ M k n pc L (.int x :: st) T r l i Q := fun p e s m args below meth c H locs ls X F hls hP hS hE => lv_if_le F.1 F.2.1 hd ht (fun h => kt h p e s m args below meth c H locs ls X F hls hP hS hE) (fun h => kf h p e s m args below meth c H locs ls X F hls hP hS hE)
theorem G_icmp_eq {x y : Int32} {off : Int} {tgt : Nat} (hd : decode M.2.1 pc = .ok (.if_icmp .eq off, 3)) (ht : (pc : Int) + off = (tgt : Int)) (kt : x = y → G Γ M k n tgt L st T r l i Q) (kf : ¬ x = y → G Γ M k n (pc + 3) L st T r l i Q) : G Γ M k n pc L (.int y :: .int x :: st) T r l i Q := fun p e s m args below meth c H locs ls X F hls hP hS hE => lv_icmp_eq F.1 F.2.1 hd ht (fun h => kt h p e s m args below meth c H locs ls X F hls hP hS hE) (fun h => kf h p e s m args below meth c H locs ls X F hls hP hS hE)
theorem G_icmp_ne {x y : Int32} {off : Int} {tgt : Nat} (hd : decode M.2.1 pc = .ok (.if_icmp .ne off, 3)) (ht : (pc : Int) + off = (tgt : Int)) (kt : ¬ x = y → G Γ M k n tgt L st T r l i Q) (kf : x = y → G Γ M k n (pc + 3) L st T r l i Q) : G Γ M k n pc L (.int y :: .int x :: st) T r l i Q := fun p e s m args below meth c H locs ls X F hls hP hS hE => lv_icmp_ne F.1 F.2.1 hd ht (fun h => kt h p e s m args below meth c H locs ls X F hls hP hS hE) (fun h => kf h p e s m args below meth c H locs ls X F hls hP hS hE)
theorem G_icmp_lt {x y : Int32} {off : Int} {tgt : Nat} (hd : decode M.2.1 pc = .ok (.if_icmp .lt off, 3)) (ht : (pc : Int) + off = (tgt : Int)) (kt : x < y → G Γ M k n tgt L st T r l i Q) (kf : ¬ x < y → G Γ M k n (pc + 3) L st T r l i Q) : G Γ M k n pc L (.int y :: .int x :: st) T r l i Q := fun p e s m args below meth c H locs ls X F hls hP hS hE => lv_icmp_lt F.1 F.2.1 hd ht (fun h => kt h p e s m args below meth c H locs ls X F hls hP hS hE) (fun h => kf h p e s m args below meth c H locs ls X F hls hP hS hE)
theorem G_icmp_ge {x y : Int32} {off : Int} {tgt : Nat} (hd : decode M.2.1 pc = .ok (.if_icmp .ge off, 3)) (ht : (pc : Int) + off = (tgt : Int)) (kt : y ≤ x → G Γ M k n tgt L st T r l i Q) (kf : ¬ y ≤ x → G Γ M k n (pc + 3) L st T r l i Q) : G Γ M k n pc L (.int y :: .int x :: st) T r l i Q := fun p e s m args below meth c H locs ls X F hls hP hS hE => lv_icmp_ge F.1 F.2.1 hd ht (fun h => kt h p e s m args below meth c H locs ls X F hls hP hS hE) (fun h => kf h p e s m args below meth c H locs ls X F hls hP hS hE)
theorem G_icmp_gt {x y : Int32} {off : Int} {tgt : Nat} (hd : decode M.2.1 pc = .ok (.if_icmp .gt off, 3)) (ht : (pc : Int) + off = (tgt : Int)) (kt : y < x → G Γ M k n tgt L st T r l i Q) (kf : ¬ y < x → G Γ M k n (pc + 3) L st T r l i Q) : G Γ M k n pc L (.int y :: .int x :: st) T r l i Q := fun p e s m args below meth c H locs ls X F hls hP hS hE => lv_icmp_gt F.1 F.2.1 hd ht (fun h => kt h p e s m args below meth c H locs ls X F hls hP hS hE) (fun h => kf h p e s m args below meth c H locs ls X F hls hP hS hE)
theorem G_icmp_le {x y : Int32} {off : Int} {tgt : Nat} (hd : decode M.2.1 pc = .ok (.if_icmp .le off, 3)) (ht : (pc : Int) + off = (tgt : Int)) (kt : x ≤ y → G Γ M k n tgt L st T r l i Q) (kf : ¬ x ≤ y → G Γ M k n (pc + 3) L st T r l i Q) : G Γ M k n pc L (.int y :: .int x :: st) T r l i Q := fun p e s m args below meth c H locs ls X F hls hP hS hE => lv_icmp_le F.1 F.2.1 hd ht (fun h => kt h p e s m args below meth c H locs ls X F hls hP hS hE) (fun h => kf h p e s m args below meth c H locs ls X F hls hP hS hE)
theorem G_lcmp {x y : Int64} (hd : decode M.2.1 pc = .ok (.lcmp, 1)) (kk : G Γ M k n (pc + 1) L (.int (lg_cmp x y) :: st) T r l i Q) : G Γ M k n pc L (.long y :: .long x :: st) T r l i Q := fun p e s m args below meth c H locs ls X F hls hP hS hE => W.lcmp F.1 F.2.1 hd (kk p e s m args below meth c H locs ls X F hls hP hS hE)
theorem glc_lt {x y : Int64} : lg_cmp x y < 0 ↔ x < y := by
  unfold lg_cmp
  by_cases h1 : y < x
  · simp [h1]; exact Int64.le_of_lt h1
  · by_cases h2 : x = y
    · simp [h2]
    · simp [h1, h2]; exact Int64.lt_of_le_of_ne (Int64.not_lt.mp h1) h2
theorem glc_gt {x y : Int64} : 0 < lg_cmp x y ↔ y < x := by
  unfold lg_cmp
  by_cases h1 : y < x
  · simp [h1]
  · by_cases h2 : x = y
    · simp [h2]
    · simp [h1, h2]
theorem glc_eq {x y : Int64} : lg_cmp x y = 0 ↔ x = y := by
  unfold lg_cmp
  by_cases h1 : y < x
  · simp [h1]; intro h; subst h; exact absurd h1 (Int64.lt_irrefl)
  · by_cases h2 : x = y
    · simp [h2]
    · simp [h1, h2]
theorem glc_le {x y : Int64} : lg_cmp x y ≤ 0 ↔ x ≤ y := by
  rw [← Int32.not_lt, glc_gt, Int64.not_lt]
theorem glc_ge {x y : Int64} : 0 ≤ lg_cmp x y ↔ y ≤ x := by
  rw [← Int32.not_lt, glc_lt, Int64.not_lt]
theorem G_lif_eq {x y : Int64} {off : Int} {tgt : Nat} (hd0 : decode M.2.1 pc = .ok (.lcmp, 1)) (hd : decode M.2.1 (pc + 1) = .ok (.ifCond .eq off, 3)) (ht : ((pc + 1 : Nat) : Int) + off = (tgt : Int)) (kt : x = y → G Γ M k n tgt L st T r l i Q) (kf : ¬ x = y → G Γ M k n (pc + 4) L st T r l i Q) : G Γ M k n pc L (.long y :: .long x :: st) T r l i Q := G_lcmp hd0 (G_if_eq hd ht (fun h => kt (glc_eq.mp h)) (fun h => kf (fun q => h (glc_eq.mpr q))))
theorem G_lif_ne {x y : Int64} {off : Int} {tgt : Nat} (hd0 : decode M.2.1 pc = .ok (.lcmp, 1)) (hd : decode M.2.1 (pc + 1) = .ok (.ifCond .ne off, 3)) (ht : ((pc + 1 : Nat) : Int) + off = (tgt : Int)) (kt : ¬ x = y → G Γ M k n tgt L st T r l i Q) (kf : x = y → G Γ M k n (pc + 4) L st T r l i Q) : G Γ M k n pc L (.long y :: .long x :: st) T r l i Q := G_lcmp hd0 (G_if_ne hd ht (fun h => kt (fun q => h (glc_eq.mpr q))) (fun h => kf (glc_eq.mp h)))
theorem G_lif_lt {x y : Int64} {off : Int} {tgt : Nat} (hd0 : decode M.2.1 pc = .ok (.lcmp, 1)) (hd : decode M.2.1 (pc + 1) = .ok (.ifCond .lt off, 3)) (ht : ((pc + 1 : Nat) : Int) + off = (tgt : Int)) (kt : x < y → G Γ M k n tgt L st T r l i Q) (kf : ¬ x < y → G Γ M k n (pc + 4) L st T r l i Q) : G Γ M k n pc L (.long y :: .long x :: st) T r l i Q := G_lcmp hd0 (G_if_lt hd ht (fun h => kt (glc_lt.mp h)) (fun h => kf (fun q => h (glc_lt.mpr q))))
theorem G_lif_ge {x y : Int64} {off : Int} {tgt : Nat} (hd0 : decode M.2.1 pc = .ok (.lcmp, 1)) (hd : decode M.2.1 (pc + 1) = .ok (.ifCond .ge off, 3)) (ht : ((pc + 1 : Nat) : Int) + off = (tgt : Int)) (kt : y ≤ x → G Γ M k n tgt L st T r l i Q) (kf : ¬ y ≤ x → G Γ M k n (pc + 4) L st T r l i Q) : G Γ M k n pc L (.long y :: .long x :: st) T r l i Q := G_lcmp hd0 (G_if_ge hd ht (fun h => kt (glc_ge.mp h)) (fun h => kf (fun q => h (glc_ge.mpr q))))
theorem G_lif_gt {x y : Int64} {off : Int} {tgt : Nat} (hd0 : decode M.2.1 pc = .ok (.lcmp, 1)) (hd : decode M.2.1 (pc + 1) = .ok (.ifCond .gt off, 3)) (ht : ((pc + 1 : Nat) : Int) + off = (tgt : Int)) (kt : y < x → G Γ M k n tgt L st T r l i Q) (kf : ¬ y < x → G Γ M k n (pc + 4) L st T r l i Q) : G Γ M k n pc L (.long y :: .long x :: st) T r l i Q := G_lcmp hd0 (G_if_gt hd ht (fun h => kt (glc_gt.mp h)) (fun h => kf (fun q => h (glc_gt.mpr q))))
theorem G_lif_le {x y : Int64} {off : Int} {tgt : Nat} (hd0 : decode M.2.1 pc = .ok (.lcmp, 1)) (hd : decode M.2.1 (pc + 1) = .ok (.ifCond .le off, 3)) (ht : ((pc + 1 : Nat) : Int) + off = (tgt : Int)) (kt : x ≤ y → G Γ M k n tgt L st T r l i Q) (kf : ¬ x ≤ y → G Γ M k n (pc + 4) L st T r l i Q) : G Γ M k n pc L (.long y :: .long x :: st) T r l i Q := G_lcmp hd0 (G_if_le hd ht (fun h => kt (glc_le.mp h)) (fun h => kf (fun q => h (glc_le.mpr q))))
theorem G_goto {off : Int} {tgt : Nat} (hd : decode M.2.1 pc = .ok (.goto off, 3)) (ht : (pc : Int) + off = (tgt : Int)) (kk : G Γ M k n tgt L st T r l i Q) : G Γ M k n pc L st T r l i Q := fun p e s m args below meth c H locs ls X F hls hP hS hE => lv_goto F.1 F.2.1 hd ht (kk p e s m args below meth c H locs ls X F hls hP hS hE)
theorem G_ifnull {a : Nat} {off : Int} (hd : decode M.2.1 pc = .ok (.ifnull off, 3)) (kk : G Γ M k n (pc + 3) L st T r l i Q) : G Γ M k n pc L (.ref a :: st) T r l i Q := fun p e s m args below meth c H locs ls X F hls hP hS hE => lv_ifnull F.1 F.2.1 hd (kk p e s m args below meth c H locs ls X F hls hP hS hE)
theorem G_ifnonnull {a : Nat} {off : Int} {tgt : Nat} (hd : decode M.2.1 pc = .ok (.ifnonnull off, 3)) (ht : (pc : Int) + off = (tgt : Int)) (kk : G Γ M k n tgt L st T r l i Q) : G Γ M k n pc L (.ref a :: st) T r l i Q := fun p e s m args below meth c H locs ls X F hls hP hS hE => lv_ifnonnull F.1 F.2.1 hd ht (kk p e s m args below meth c H locs ls X F hls hP hS hE)
theorem G_ifnullN {off : Int} {tgt : Nat} (hd : decode M.2.1 pc = .ok (.ifnull off, 3)) (ht : (pc : Int) + off = (tgt : Int)) (kk : G Γ M k n tgt L st T r l i Q) : G Γ M k n pc L (.null :: st) T r l i Q := fun p e s m args below meth c H locs ls X F hls hP hS hE => lv_ifnullN F.1 F.2.1 hd ht (kk p e s m args below meth c H locs ls X F hls hP hS hE)
theorem G_ifnonnullN {off : Int} (hd : decode M.2.1 pc = .ok (.ifnonnull off, 3)) (kk : G Γ M k n (pc + 3) L st T r l i Q) : G Γ M k n pc L (.null :: st) T r l i Q := fun p e s m args below meth c H locs ls X F hls hP hS hE => lv_ifnonnullN F.1 F.2.1 hd (kk p e s m args below meth c H locs ls X F hls hP hS hE)
theorem G_null (hd : decode M.2.1 pc = .ok (.aconst_null, 1)) (kk : G Γ M k n (pc + 1) L (.null :: st) T r l i Q) : G Γ M k n pc L st T r l i Q := fun p e s m args below meth c H locs ls X F hls hP hS hE => lv_null F.1 F.2.1 hd (kk p e s m args below meth c H locs ls X F hls hP hS hE)
theorem G_tableIn {dflt lo hi : Int} {offs : Array Int} {len : Nat} {x : Int32} {off : Int} {tgt : Nat} (hd : decode M.2.1 pc = .ok (.tableswitch dflt lo hi offs, len)) (h1 : ¬ x.toInt < lo) (h2 : ¬ hi < x.toInt) (ho : offs[(x.toInt - lo).toNat]? = some off) (ht : (pc : Int) + off = (tgt : Int)) (kk : G Γ M k n tgt L st T r l i Q) : G Γ M k n pc L (.int x :: st) T r l i Q := fun p e s m args below meth c H locs ls X F hls hP hS hE => lv_tableIn F.1 F.2.1 hd h1 h2 ho ht (kk p e s m args below meth c H locs ls X F hls hP hS hE)
theorem G_tableOut {dflt lo hi : Int} {offs : Array Int} {len : Nat} {x : Int32} {tgt : Nat} (hd : decode M.2.1 pc = .ok (.tableswitch dflt lo hi offs, len)) (h : x.toInt < lo ∨ hi < x.toInt) (ht : (pc : Int) + dflt = (tgt : Int)) (kk : G Γ M k n tgt L st T r l i Q) : G Γ M k n pc L (.int x :: st) T r l i Q := fun p e s m args below meth c H locs ls X F hls hP hS hE => lv_tableOut F.1 F.2.1 hd h ht (kk p e s m args below meth c H locs ls X F hls hP hS hE)
theorem G_lookup {dflt : Int} {ps : Array (Int × Int)} {len : Nat} {x : Int32} {off : Int} {tgt : Nat} (hd : decode M.2.1 pc = .ok (.lookupswitch dflt ps, len)) (hp : (ps.toList.zip (ps.toList.drop 1)).all (fun (a, next) => a.1 < next.1) = true) (ho : Op.lookupswitch.offset ps.toList dflt x.toInt = off) (ht : (pc : Int) + off = (tgt : Int)) (kk : G Γ M k n tgt L st T r l i Q) : G Γ M k n pc L (.int x :: st) T r l i Q := fun p e s m args below meth c H locs ls X F hls hP hS hE => lv_lookup F.1 F.2.1 hd hp ho ht (kk p e s m args below meth c H locs ls X F hls hP hS hE)
/-- the instruction at pc stores v into local q -/
def gSt (Γ : gG) (M : gM) (pc len q : Nat) (v : Value) (cat2 : Bool) : Prop := ∀ (L : List (Nat × Value)) (p : Program) (e : Env) (s : State) (m : MethodId) (args : Array Value) (below : List Frame) (meth : Method) (c : Code) (H : Heap) (locs : List Loc) (ls : Array Slot) (X : State → Prop) (k n : Nat) (st : List Value), gFix Γ M p s m args meth c → lv_has ls M.2.2.1 L →
  (∀ ls' : Array Slot, lv_has ls' M.2.2.1 ((q, v) :: L.filter (fun y => !(y.1 == q) && (!(cat2 && y.1 == q + 1) && !(y.1 + 1 == q && y.2.category == 2)))) → W p Γ.1 e M.2.2.2.2 s m args below meth c H locs k n X (F0 m (pc + len) ls' st)) → W p Γ.1 e M.2.2.2.2 s m args below meth c H locs k n X (F0 m pc ls (v :: st))
theorem gSt_in {q : Fin 4} {q' : Nat} {x : Int32} (hd : decode M.2.1 pc = .ok (.istore_n q, 1)) (he : (q : Nat) = q') (hq : q' < M.2.2.1) : gSt Γ M pc 1 q' (.int x) false := fun L p e s m args below meth c H locs ls X k n st F hls kk => lv_istore_n F.1 F.2.1 hd he hls hq rfl (fun ls' h => kk ls' (by simpa using h))
theorem gSt_i {q : Nat} {x : Int32} (hd : decode M.2.1 pc = .ok (.istore q, 2)) (hq : q < M.2.2.1) : gSt Γ M pc 2 q (.int x) false := fun L p e s m args below meth c H locs ls X k n st F hls kk => lv_istore F.1 F.2.1 hd hls hq rfl (fun ls' h => kk ls' (by simpa using h))
theorem gSt_an {q : Fin 4} {q' : Nat} {x : Nat} (hd : decode M.2.1 pc = .ok (.astore_n q, 1)) (he : (q : Nat) = q') (hq : q' < M.2.2.1) : gSt Γ M pc 1 q' (.ref x) false := fun L p e s m args below meth c H locs ls X k n st F hls kk => lv_astore_n F.1 F.2.1 hd he hls hq rfl (fun ls' h => kk ls' (by simpa using h))
theorem gSt_a {q : Nat} {x : Nat} (hd : decode M.2.1 pc = .ok (.astore q, 2)) (hq : q < M.2.2.1) : gSt Γ M pc 2 q (.ref x) false := fun L p e s m args below meth c H locs ls X k n st F hls kk => lv_astore F.1 F.2.1 hd hls hq rfl (fun ls' h => kk ls' (by simpa using h))
theorem gSt_fn {q : Fin 4} {q' : Nat} {x : UInt32} (hd : decode M.2.1 pc = .ok (.fstore_n q, 1)) (he : (q : Nat) = q') (hq : q' < M.2.2.1) : gSt Γ M pc 1 q' (.float x) false := fun L p e s m args below meth c H locs ls X k n st F hls kk => lv_fstore_n F.1 F.2.1 hd he hls hq rfl (fun ls' h => kk ls' (by simpa using h))
theorem gSt_anN {q : Fin 4} {q' : Nat} (hd : decode M.2.1 pc = .ok (.astore_n q, 1)) (he : (q : Nat) = q') (hq : q' < M.2.2.1) : gSt Γ M pc 1 q' .null false := fun L p e s m args below meth c H locs ls X k n st F hls kk => lv_astore_nN F.1 F.2.1 hd he hls hq rfl (fun ls' h => kk ls' (by simpa using h))
theorem gSt_aN {q : Nat} (hd : decode M.2.1 pc = .ok (.astore q, 2)) (hq : q < M.2.2.1) : gSt Γ M pc 2 q .null false := fun L p e s m args below meth c H locs ls X k n st F hls kk => lv_astoreN F.1 F.2.1 hd hls hq rfl (fun ls' h => kk ls' (by simpa using h))
theorem gSt_ln {q : Fin 4} {q' : Nat} {x : Int64} (hd : decode M.2.1 pc = .ok (.lstore_n q, 1)) (he : (q : Nat) = q') (hq : q' + 1 < M.2.2.1) : gSt Γ M pc 1 q' (.long x) true := fun L p e s m args below meth c H locs ls X k n st F hls kk => lv_lstore_n F.1 F.2.1 hd he hls hq rfl (fun ls' h => kk ls' (by simpa using h))
theorem gSt_l {q : Nat} {x : Int64} (hd : decode M.2.1 pc = .ok (.lstore q, 2)) (hq : q + 1 < M.2.2.1) : gSt Γ M pc 2 q (.long x) true := fun L p e s m args below meth c H locs ls X k n st F hls kk => lv_lstore F.1 F.2.1 hd hls hq rfl (fun ls' h => kk ls' (by simpa using h))
def gKp (q : Nat) (cat2 : Bool) (l : List (Nat × Value)) : Bool := l.all fun y => !(y.1 == q) && (!(cat2 && y.1 == q + 1) && !(y.1 + 1 == q && y.2.category == 2))
/-- any list of locals that holds the new one beside old ones that a store leaves alone -/
theorem G_stG {len q : Nat} {v : Value} {cat2 : Bool} {L' : List (Nat × Value)} (hs : gSt Γ M pc len q v cat2) (hL : ∀ y ∈ L', y = (q, v) ∨ (y ∈ L ∧ gKp q cat2 [y] = true)) (kk : G Γ M k n (pc + len) L' st T r l i Q) : G Γ M k n pc L (v :: st) T r l i Q := fun p e s m args below meth c H locs ls X F hls hP hS hE => hs L p e s m args below meth c H locs ls X k n st F hls (fun ls' h => kk p e s m args below meth c H locs ls' X F ⟨h.1, h.2.1, fun y hy => by
  rcases hL y hy with rfl | ⟨h1, h2⟩
  · exact h.2.2 _ List.mem_cons_self
  · exact h.2.2 _ (List.mem_cons_of_mem _ (List.mem_filter.mpr ⟨h1, by simpa [gKp] using h2⟩))⟩ hP hS hE)
theorem gKp_mem {q : Nat} {cat2 : Bool} {l : List (Nat × Value)} (h : gKp q cat2 l = true) {y : Nat × Value} (hy : y ∈ l) : gKp q cat2 [y] = true := by
  have := List.all_eq_true.mp h y hy
  simpa [gKp] using this
theorem G_stA {len q : Nat} {v old : Value} {cat2 : Bool} {A B : List (Nat × Value)} (hs : gSt Γ M pc len q v cat2) (hk : gKp q cat2 (A ++ B) = true) (kk : G Γ M k n (pc + len) (A ++ (q, v) :: B) st T r l i Q) : G Γ M k n pc (A ++ (q, old) :: B) (v :: st) T r l i Q := G_stG hs (fun y hy => by
  rcases List.mem_append.mp hy with h | h
  · exact Or.inr ⟨List.mem_append_left _ h, gKp_mem hk (List.mem_append_left _ h)⟩
  · rcases List.mem_cons.mp h with h | h
    · exact Or.inl h
    · exact Or.inr ⟨List.mem_append_right _ (List.mem_cons_of_mem _ h), gKp_mem hk (List.mem_append_right _ h)⟩) kk
theorem G_stB {len q : Nat} {v : Value} {cat2 : Bool} {A : List (Nat × Value)} (hs : gSt Γ M pc len q v cat2) (hk : gKp q cat2 A = true) (kk : G Γ M k n (pc + len) (A ++ [(q, v)]) st T r l i Q) : G Γ M k n pc A (v :: st) T r l i Q := G_stG hs (fun y hy => by
  rcases List.mem_append.mp hy with h | h
  · exact Or.inr ⟨h, gKp_mem hk h⟩
  · exact Or.inl (List.mem_singleton.mp h)) kk
theorem G_st0 {len q : Nat} {v old : Value} {cat2 : Bool} {B : List (Nat × Value)} (hs : gSt Γ M pc len q v cat2) (hk : gKp q cat2 ([] ++ B) = true) (kk : G Γ M k n (pc + len) ((q, v) :: B) st T r l i Q) : G Γ M k n pc ((q, old) :: B) (v :: st) T r l i Q := G_stA (A := []) hs hk kk
theorem G_sn0 {len q : Nat} {v : Value} {cat2 : Bool} (hs : gSt Γ M pc len q v cat2) (hk : gKp q cat2 [] = true) (kk : G Γ M k n (pc + len) [(q, v)] st T r l i Q) : G Γ M k n pc [] (v :: st) T r l i Q := G_stB (A := []) hs hk kk
theorem G_iinc0 {q : Nat} {z : Int} {x : Int32} {B : List (Nat × Value)} (hd : decode M.2.1 pc = .ok (.iinc q z, 3)) (hq : q < M.2.2.1) (hk : gKp q false ([] ++ B) = true) (kk : G Γ M k n (pc + 3) ((q, .int (x + Int32.ofInt z)) :: B) st T r l i Q) : G Γ M k n pc ((q, .int x) :: B) st T r l i Q := fun p e s m args below meth c H locs ls X F hls hP hS hE => lv_iinc (k := 0) F.1 F.2.1 hd hls rfl rfl hq rfl (fun ls' h => kk p e s m args below meth c H locs ls' X F ⟨h.1, h.2.1, fun y hy => by
  have hy2 : y ∈ [] ++ (q, Value.int (x + Int32.ofInt z)) :: B := hy
  rcases List.mem_append.mp hy2 with h1 | h1
  · exact h.2.2 _ (List.mem_cons_of_mem _ (List.mem_filter.mpr ⟨(show y ∈ [] ++ (q, Value.int x) :: B from List.mem_append_left _ h1), by simpa [gKp] using gKp_mem hk (List.mem_append_left _ h1)⟩))
  · rcases List.mem_cons.mp h1 with h1 | h1
    · rw [h1]; exact h.2.2 _ List.mem_cons_self
    · exact h.2.2 _ (List.mem_cons_of_mem _ (List.mem_filter.mpr ⟨(show y ∈ [] ++ (q, Value.int x) :: B from List.mem_append_right _ (List.mem_cons_of_mem _ h1)), by simpa [gKp] using gKp_mem hk (List.mem_append_right _ h1)⟩))⟩ hP hS hE)
theorem G_st1 {len q : Nat} {v old : Value} {cat2 : Bool} {a0 : Nat × Value} {B : List (Nat × Value)} (hs : gSt Γ M pc len q v cat2) (hk : gKp q cat2 ([a0] ++ B) = true) (kk : G Γ M k n (pc + len) (a0 :: (q, v) :: B) st T r l i Q) : G Γ M k n pc (a0 :: (q, old) :: B) (v :: st) T r l i Q := G_stA (A := [a0]) hs hk kk
theorem G_sn1 {len q : Nat} {v : Value} {cat2 : Bool} {a0 : Nat × Value} (hs : gSt Γ M pc len q v cat2) (hk : gKp q cat2 [a0] = true) (kk : G Γ M k n (pc + len) [a0, (q, v)] st T r l i Q) : G Γ M k n pc [a0] (v :: st) T r l i Q := G_stB (A := [a0]) hs hk kk
theorem G_iinc1 {q : Nat} {z : Int} {x : Int32} {a0 : Nat × Value} {B : List (Nat × Value)} (hd : decode M.2.1 pc = .ok (.iinc q z, 3)) (hq : q < M.2.2.1) (hk : gKp q false ([a0] ++ B) = true) (kk : G Γ M k n (pc + 3) (a0 :: (q, .int (x + Int32.ofInt z)) :: B) st T r l i Q) : G Γ M k n pc (a0 :: (q, .int x) :: B) st T r l i Q := fun p e s m args below meth c H locs ls X F hls hP hS hE => lv_iinc (k := 1) F.1 F.2.1 hd hls rfl rfl hq rfl (fun ls' h => kk p e s m args below meth c H locs ls' X F ⟨h.1, h.2.1, fun y hy => by
  have hy2 : y ∈ [a0] ++ (q, Value.int (x + Int32.ofInt z)) :: B := hy
  rcases List.mem_append.mp hy2 with h1 | h1
  · exact h.2.2 _ (List.mem_cons_of_mem _ (List.mem_filter.mpr ⟨(show y ∈ [a0] ++ (q, Value.int x) :: B from List.mem_append_left _ h1), by simpa [gKp] using gKp_mem hk (List.mem_append_left _ h1)⟩))
  · rcases List.mem_cons.mp h1 with h1 | h1
    · rw [h1]; exact h.2.2 _ List.mem_cons_self
    · exact h.2.2 _ (List.mem_cons_of_mem _ (List.mem_filter.mpr ⟨(show y ∈ [a0] ++ (q, Value.int x) :: B from List.mem_append_right _ (List.mem_cons_of_mem _ h1)), by simpa [gKp] using gKp_mem hk (List.mem_append_right _ h1)⟩))⟩ hP hS hE)
theorem G_st2 {len q : Nat} {v old : Value} {cat2 : Bool} {a0 a1 : Nat × Value} {B : List (Nat × Value)} (hs : gSt Γ M pc len q v cat2) (hk : gKp q cat2 ([a0, a1] ++ B) = true) (kk : G Γ M k n (pc + len) (a0 :: a1 :: (q, v) :: B) st T r l i Q) : G Γ M k n pc (a0 :: a1 :: (q, old) :: B) (v :: st) T r l i Q := G_stA (A := [a0, a1]) hs hk kk
theorem G_sn2 {len q : Nat} {v : Value} {cat2 : Bool} {a0 a1 : Nat × Value} (hs : gSt Γ M pc len q v cat2) (hk : gKp q cat2 [a0, a1] = true) (kk : G Γ M k n (pc + len) [a0, a1, (q, v)] st T r l i Q) : G Γ M k n pc [a0, a1] (v :: st) T r l i Q := G_stB (A := [a0, a1]) hs hk kk
theorem G_iinc2 {q : Nat} {z : Int} {x : Int32} {a0 a1 : Nat × Value} {B : List (Nat × Value)} (hd : decode M.2.1 pc = .ok (.iinc q z, 3)) (hq : q < M.2.2.1) (hk : gKp q false ([a0, a1] ++ B) = true) (kk : G Γ M k n (pc + 3) (a0 :: a1 :: (q, .int (x + Int32.ofInt z)) :: B) st T r l i Q) : G Γ M k n pc (a0 :: a1 :: (q, .int x) :: B) st T r l i Q := fun p e s m args below meth c H locs ls X F hls hP hS hE => lv_iinc (k := 2) F.1 F.2.1 hd hls rfl rfl hq rfl (fun ls' h => kk p e s m args below meth c H locs ls' X F ⟨h.1, h.2.1, fun y hy => by
  have hy2 : y ∈ [a0, a1] ++ (q, Value.int (x + Int32.ofInt z)) :: B := hy
  rcases List.mem_append.mp hy2 with h1 | h1
  · exact h.2.2 _ (List.mem_cons_of_mem _ (List.mem_filter.mpr ⟨(show y ∈ [a0, a1] ++ (q, Value.int x) :: B from List.mem_append_left _ h1), by simpa [gKp] using gKp_mem hk (List.mem_append_left _ h1)⟩))
  · rcases List.mem_cons.mp h1 with h1 | h1
    · rw [h1]; exact h.2.2 _ List.mem_cons_self
    · exact h.2.2 _ (List.mem_cons_of_mem _ (List.mem_filter.mpr ⟨(show y ∈ [a0, a1] ++ (q, Value.int x) :: B from List.mem_append_right _ (List.mem_cons_of_mem _ h1)), by simpa [gKp] using gKp_mem hk (List.mem_append_right _ h1)⟩))⟩ hP hS hE)
theorem G_st3 {len q : Nat} {v old : Value} {cat2 : Bool} {a0 a1 a2 : Nat × Value} {B : List (Nat × Value)} (hs : gSt Γ M pc len q v cat2) (hk : gKp q cat2 ([a0, a1, a2] ++ B) = true) (kk : G Γ M k n (pc + len) (a0 :: a1 :: a2 :: (q, v) :: B) st T r l i Q) : G Γ M k n pc (a0 :: a1 :: a2 :: (q, old) :: B) (v :: st) T r l i Q := G_stA (A := [a0, a1, a2]) hs hk kk
theorem G_sn3 {len q : Nat} {v : Value} {cat2 : Bool} {a0 a1 a2 : Nat × Value} (hs : gSt Γ M pc len q v cat2) (hk : gKp q cat2 [a0, a1, a2] = true) (kk : G Γ M k n (pc + len) [a0, a1, a2, (q, v)] st T r l i Q) : G Γ M k n pc [a0, a1, a2] (v :: st) T r l i Q := G_stB (A := [a0, a1, a2]) hs hk kk
theorem G_iinc3 {q : Nat} {z : Int} {x : Int32} {a0 a1 a2 : Nat × Value} {B : List (Nat × Value)} (hd : decode M.2.1 pc = .ok (.iinc q z, 3)) (hq : q < M.2.2.1) (hk : gKp q false ([a0, a1, a2] ++ B) = true) (kk : G Γ M k n (pc + 3) (a0 :: a1 :: a2 :: (q, .int (x + Int32.ofInt z)) :: B) st T r l i Q) : G Γ M k n pc (a0 :: a1 :: a2 :: (q, .int x) :: B) st T r l i Q := fun p e s m args below meth c H locs ls X F hls hP hS hE => lv_iinc (k := 3) F.1 F.2.1 hd hls rfl rfl hq rfl (fun ls' h => kk p e s m args below meth c H locs ls' X F ⟨h.1, h.2.1, fun y hy => by
  have hy2 : y ∈ [a0, a1, a2] ++ (q, Value.int (x + Int32.ofInt z)) :: B := hy
  rcases List.mem_append.mp hy2 with h1 | h1
  · exact h.2.2 _ (List.mem_cons_of_mem _ (List.mem_filter.mpr ⟨(show y ∈ [a0, a1, a2] ++ (q, Value.int x) :: B from List.mem_append_left _ h1), by simpa [gKp] using gKp_mem hk (List.mem_append_left _ h1)⟩))
  · rcases List.mem_cons.mp h1 with h1 | h1
    · rw [h1]; exact h.2.2 _ List.mem_cons_self
    · exact h.2.2 _ (List.mem_cons_of_mem _ (List.mem_filter.mpr ⟨(show y ∈ [a0, a1, a2] ++ (q, Value.int x) :: B from List.mem_append_right _ (List.mem_cons_of_mem _ h1)), by simpa [gKp] using gKp_mem hk (List.mem_append_right _ h1)⟩))⟩ hP hS hE)
theorem G_st4 {len q : Nat} {v old : Value} {cat2 : Bool} {a0 a1 a2 a3 : Nat × Value} {B : List (Nat × Value)} (hs : gSt Γ M pc len q v cat2) (hk : gKp q cat2 ([a0, a1, a2, a3] ++ B) = true) (kk : G Γ M k n (pc + len) (a0 :: a1 :: a2 :: a3 :: (q, v) :: B) st T r l i Q) : G Γ M k n pc (a0 :: a1 :: a2 :: a3 :: (q, old) :: B) (v :: st) T r l i Q := G_stA (A := [a0, a1, a2, a3]) hs hk kk
theorem G_sn4 {len q : Nat} {v : Value} {cat2 : Bool} {a0 a1 a2 a3 : Nat × Value} (hs : gSt Γ M pc len q v cat2) (hk : gKp q cat2 [a0, a1, a2, a3] = true) (kk : G Γ M k n (pc + len) [a0, a1, a2, a3, (q, v)] st T r l i Q) : G Γ M k n pc [a0, a1, a2, a3] (v :: st) T r l i Q := G_stB (A := [a0, a1, a2, a3]) hs hk kk
theorem G_iinc4 {q : Nat} {z : Int} {x : Int32} {a0 a1 a2 a3 : Nat × Value} {B : List (Nat × Value)} (hd : decode M.2.1 pc = .ok (.iinc q z, 3)) (hq : q < M.2.2.1) (hk : gKp q false ([a0, a1, a2, a3] ++ B) = true) (kk : G Γ M k n (pc + 3) (a0 :: a1 :: a2 :: a3 :: (q, .int (x + Int32.ofInt z)) :: B) st T r l i Q) : G Γ M k n pc (a0 :: a1 :: a2 :: a3 :: (q, .int x) :: B) st T r l i Q := fun p e s m args below meth c H locs ls X F hls hP hS hE => lv_iinc (k := 4) F.1 F.2.1 hd hls rfl rfl hq rfl (fun ls' h => kk p e s m args below meth c H locs ls' X F ⟨h.1, h.2.1, fun y hy => by
  have hy2 : y ∈ [a0, a1, a2, a3] ++ (q, Value.int (x + Int32.ofInt z)) :: B := hy
  rcases List.mem_append.mp hy2 with h1 | h1
  · exact h.2.2 _ (List.mem_cons_of_mem _ (List.mem_filter.mpr ⟨(show y ∈ [a0, a1, a2, a3] ++ (q, Value.int x) :: B from List.mem_append_left _ h1), by simpa [gKp] using gKp_mem hk (List.mem_append_left _ h1)⟩))
  · rcases List.mem_cons.mp h1 with h1 | h1
    · rw [h1]; exact h.2.2 _ List.mem_cons_self
    · exact h.2.2 _ (List.mem_cons_of_mem _ (List.mem_filter.mpr ⟨(show y ∈ [a0, a1, a2, a3] ++ (q, Value.int x) :: B from List.mem_append_right _ (List.mem_cons_of_mem _ h1)), by simpa [gKp] using gKp_mem hk (List.mem_append_right _ h1)⟩))⟩ hP hS hE)
theorem G_st5 {len q : Nat} {v old : Value} {cat2 : Bool} {a0 a1 a2 a3 a4 : Nat × Value} {B : List (Nat × Value)} (hs : gSt Γ M pc len q v cat2) (hk : gKp q cat2 ([a0, a1, a2, a3, a4] ++ B) = true) (kk : G Γ M k n (pc + len) (a0 :: a1 :: a2 :: a3 :: a4 :: (q, v) :: B) st T r l i Q) : G Γ M k n pc (a0 :: a1 :: a2 :: a3 :: a4 :: (q, old) :: B) (v :: st) T r l i Q := G_stA (A := [a0, a1, a2, a3, a4]) hs hk kk
theorem G_sn5 {len q : Nat} {v : Value} {cat2 : Bool} {a0 a1 a2 a3 a4 : Nat × Value} (hs : gSt Γ M pc len q v cat2) (hk : gKp q cat2 [a0, a1, a2, a3, a4] = true) (kk : G Γ M k n (pc + len) [a0, a1, a2, a3, a4, (q, v)] st T r l i Q) : G Γ M k n pc [a0, a1, a2, a3, a4] (v :: st) T r l i Q := G_stB (A := [a0, a1, a2, a3, a4]) hs hk kk
theorem G_iinc5 {q : Nat} {z : Int} {x : Int32} {a0 a1 a2 a3 a4 : Nat × Value} {B : List (Nat × Value)} (hd : decode M.2.1 pc = .ok (.iinc q z, 3)) (hq : q < M.2.2.1) (hk : gKp q false ([a0, a1, a2, a3, a4] ++ B) = true) (kk : G Γ M k n (pc + 3) (a0 :: a1 :: a2 :: a3 :: a4 :: (q, .int (x + Int32.ofInt z)) :: B) st T r l i Q) : G Γ M k n pc (a0 :: a1 :: a2 :: a3 :: a4 :: (q, .int x) :: B) st T r l i Q := fun p e s m args below meth c H locs ls X F hls hP hS hE => lv_iinc (k := 5) F.1 F.2.1 hd hls rfl rfl hq rfl (fun ls' h => kk p e s m args below meth c H locs ls' X F ⟨h.1, h.2.1, fun y hy => by
  have hy2 : y ∈ [a0, a1, a2, a3, a4] ++ (q, Value.int (x + Int32.ofInt z)) :: B := hy
  rcases List.mem_append.mp hy2 with h1 | h1
  · exact h.2.2 _ (List.mem_cons_of_mem _ (List.mem_filter.mpr ⟨(show y ∈ [a0, a1, a2, a3, a4] ++ (q, Value.int x) :: B from List.mem_append_left _ h1), by simpa [gKp] using gKp_mem hk (List.mem_append_left _ h1)⟩))
  · rcases List.mem_cons.mp h1 with h1 | h1
    · rw [h1]; exact h.2.2 _ List.mem_cons_self
    · exact h.2.2 _ (List.mem_cons_of_mem _ (List.mem_filter.mpr ⟨(show y ∈ [a0, a1, a2, a3, a4] ++ (q, Value.int x) :: B from List.mem_append_right _ (List.mem_cons_of_mem _ h1)), by simpa [gKp] using gKp_mem hk (List.mem_append_right _ h1)⟩))⟩ hP hS hE)
theorem G_st6 {len q : Nat} {v old : Value} {cat2 : Bool} {a0 a1 a2 a3 a4 a5 : Nat × Value} {B : List (Nat × Value)} (hs : gSt Γ M pc len q v cat2) (hk : gKp q cat2 ([a0, a1, a2, a3, a4, a5] ++ B) = true) (kk : G Γ M k n (pc + len) (a0 :: a1 :: a2 :: a3 :: a4 :: a5 :: (q, v) :: B) st T r l i Q) : G Γ M k n pc (a0 :: a1 :: a2 :: a3 :: a4 :: a5 :: (q, old) :: B) (v :: st) T r l i Q := G_stA (A := [a0, a1, a2, a3, a4, a5]) hs hk kk
theorem G_sn6 {len q : Nat} {v : Value} {cat2 : Bool} {a0 a1 a2 a3 a4 a5 : Nat × Value} (hs : gSt Γ M pc len q v cat2) (hk : gKp q cat2 [a0, a1, a2, a3, a4, a5] = true) (kk : G Γ M k n (pc + len) [a0, a1, a2, a3, a4, a5, (q, v)] st T r l i Q) : G Γ M k n pc [a0, a1, a2, a3, a4, a5] (v :: st) T r l i Q := G_stB (A := [a0, a1, a2, a3, a4, a5]) hs hk kk
theorem G_iinc6 {q : Nat} {z : Int} {x : Int32} {a0 a1 a2 a3 a4 a5 : Nat × Value} {B : List (Nat × Value)} (hd : decode M.2.1 pc = .ok (.iinc q z, 3)) (hq : q < M.2.2.1) (hk : gKp q false ([a0, a1, a2, a3, a4, a5] ++ B) = true) (kk : G Γ M k n (pc + 3) (a0 :: a1 :: a2 :: a3 :: a4 :: a5 :: (q, .int (x + Int32.ofInt z)) :: B) st T r l i Q) : G Γ M k n pc (a0 :: a1 :: a2 :: a3 :: a4 :: a5 :: (q, .int x) :: B) st T r l i Q := fun p e s m args below meth c H locs ls X F hls hP hS hE => lv_iinc (k := 6) F.1 F.2.1 hd hls rfl rfl hq rfl (fun ls' h => kk p e s m args below meth c H locs ls' X F ⟨h.1, h.2.1, fun y hy => by
  have hy2 : y ∈ [a0, a1, a2, a3, a4, a5] ++ (q, Value.int (x + Int32.ofInt z)) :: B := hy
  rcases List.mem_append.mp hy2 with h1 | h1
  · exact h.2.2 _ (List.mem_cons_of_mem _ (List.mem_filter.mpr ⟨(show y ∈ [a0, a1, a2, a3, a4, a5] ++ (q, Value.int x) :: B from List.mem_append_left _ h1), by simpa [gKp] using gKp_mem hk (List.mem_append_left _ h1)⟩))
  · rcases List.mem_cons.mp h1 with h1 | h1
    · rw [h1]; exact h.2.2 _ List.mem_cons_self
    · exact h.2.2 _ (List.mem_cons_of_mem _ (List.mem_filter.mpr ⟨(show y ∈ [a0, a1, a2, a3, a4, a5] ++ (q, Value.int x) :: B from List.mem_append_right _ (List.mem_cons_of_mem _ h1)), by simpa [gKp] using gKp_mem hk (List.mem_append_right _ h1)⟩))⟩ hP hS hE)
theorem G_st7 {len q : Nat} {v old : Value} {cat2 : Bool} {a0 a1 a2 a3 a4 a5 a6 : Nat × Value} {B : List (Nat × Value)} (hs : gSt Γ M pc len q v cat2) (hk : gKp q cat2 ([a0, a1, a2, a3, a4, a5, a6] ++ B) = true) (kk : G Γ M k n (pc + len) (a0 :: a1 :: a2 :: a3 :: a4 :: a5 :: a6 :: (q, v) :: B) st T r l i Q) : G Γ M k n pc (a0 :: a1 :: a2 :: a3 :: a4 :: a5 :: a6 :: (q, old) :: B) (v :: st) T r l i Q := G_stA (A := [a0, a1, a2, a3, a4, a5, a6]) hs hk kk
theorem G_sn7 {len q : Nat} {v : Value} {cat2 : Bool} {a0 a1 a2 a3 a4 a5 a6 : Nat × Value} (hs : gSt Γ M pc len q v cat2) (hk : gKp q cat2 [a0, a1, a2, a3, a4, a5, a6] = true) (kk : G Γ M k n (pc + len) [a0, a1, a2, a3, a4, a5, a6, (q, v)] st T r l i Q) : G Γ M k n pc [a0, a1, a2, a3, a4, a5, a6] (v :: st) T r l i Q := G_stB (A := [a0, a1, a2, a3, a4, a5, a6]) hs hk kk
theorem G_iinc7 {q : Nat} {z : Int} {x : Int32} {a0 a1 a2 a3 a4 a5 a6 : Nat × Value} {B : List (Nat × Value)} (hd : decode M.2.1 pc = .ok (.iinc q z, 3)) (hq : q < M.2.2.1) (hk : gKp q false ([a0, a1, a2, a3, a4, a5, a6] ++ B) = true) (kk : G Γ M k n (pc + 3) (a0 :: a1 :: a2 :: a3 :: a4 :: a5 :: a6 :: (q, .int (x + Int32.ofInt z)) :: B) st T r l i Q) : G Γ M k n pc (a0 :: a1 :: a2 :: a3 :: a4 :: a5 :: a6 :: (q, .int x) :: B) st T r l i Q := fun p e s m args below meth c H locs ls X F hls hP hS hE => lv_iinc (k := 7) F.1 F.2.1 hd hls rfl rfl hq rfl (fun ls' h => kk p e s m args below meth c H locs ls' X F ⟨h.1, h.2.1, fun y hy => by
  have hy2 : y ∈ [a0, a1, a2, a3, a4, a5, a6] ++ (q, Value.int (x + Int32.ofInt z)) :: B := hy
  rcases List.mem_append.mp hy2 with h1 | h1
  · exact h.2.2 _ (List.mem_cons_of_mem _ (List.mem_filter.mpr ⟨(show y ∈ [a0, a1, a2, a3, a4, a5, a6] ++ (q, Value.int x) :: B from List.mem_append_left _ h1), by simpa [gKp] using gKp_mem hk (List.mem_append_left _ h1)⟩))
  · rcases List.mem_cons.mp h1 with h1 | h1
    · rw [h1]; exact h.2.2 _ List.mem_cons_self
    · exact h.2.2 _ (List.mem_cons_of_mem _ (List.mem_filter.mpr ⟨(show y ∈ [a0, a1, a2, a3, a4, a5, a6] ++ (q, Value.int x) :: B from List.mem_append_right _ (List.mem_cons_of_mem _ h1)), by simpa [gKp] using gKp_mem hk (List.mem_append_right _ h1)⟩))⟩ hP hS hE)
theorem G_st8 {len q : Nat} {v old : Value} {cat2 : Bool} {a0 a1 a2 a3 a4 a5 a6 a7 : Nat × Value} {B : List (Nat × Value)} (hs : gSt Γ M pc len q v cat2) (hk : gKp q cat2 ([a0, a1, a2, a3, a4, a5, a6, a7] ++ B) = true) (kk : G Γ M k n (pc + len) (a0 :: a1 :: a2 :: a3 :: a4 :: a5 :: a6 :: a7 :: (q, v) :: B) st T r l i Q) : G Γ M k n pc (a0 :: a1 :: a2 :: a3 :: a4 :: a5 :: a6 :: a7 :: (q, old) :: B) (v :: st) T r l i Q := G_stA (A := [a0, a1, a2, a3, a4, a5, a6, a7]) hs hk kk
theorem G_sn8 {len q : Nat} {v : Value} {cat2 : Bool} {a0 a1 a2 a3 a4 a5 a6 a7 : Nat × Value} (hs : gSt Γ M pc len q v cat2) (hk : gKp q cat2 [a0, a1, a2, a3, a4, a5, a6, a7] = true) (kk : G Γ M k n (pc + len) [a0, a1, a2, a3, a4, a5, a6, a7, (q, v)] st T r l i Q) : G Γ M k n pc [a0, a1, a2, a3, a4, a5, a6, a7] (v :: st) T r l i Q := G_stB (A := [a0, a1, a2, a3, a4, a5, a6, a7]) hs hk kk
theorem G_iinc8 {q : Nat} {z : Int} {x : Int32} {a0 a1 a2 a3 a4 a5 a6 a7 : Nat × Value} {B : List (Nat × Value)} (hd : decode M.2.1 pc = .ok (.iinc q z, 3)) (hq : q < M.2.2.1) (hk : gKp q false ([a0, a1, a2, a3, a4, a5, a6, a7] ++ B) = true) (kk : G Γ M k n (pc + 3) (a0 :: a1 :: a2 :: a3 :: a4 :: a5 :: a6 :: a7 :: (q, .int (x + Int32.ofInt z)) :: B) st T r l i Q) : G Γ M k n pc (a0 :: a1 :: a2 :: a3 :: a4 :: a5 :: a6 :: a7 :: (q, .int x) :: B) st T r l i Q := fun p e s m args below meth c H locs ls X F hls hP hS hE => lv_iinc (k := 8) F.1 F.2.1 hd hls rfl rfl hq rfl (fun ls' h => kk p e s m args below meth c H locs ls' X F ⟨h.1, h.2.1, fun y hy => by
  have hy2 : y ∈ [a0, a1, a2, a3, a4, a5, a6, a7] ++ (q, Value.int (x + Int32.ofInt z)) :: B := hy
  rcases List.mem_append.mp hy2 with h1 | h1
  · exact h.2.2 _ (List.mem_cons_of_mem _ (List.mem_filter.mpr ⟨(show y ∈ [a0, a1, a2, a3, a4, a5, a6, a7] ++ (q, Value.int x) :: B from List.mem_append_left _ h1), by simpa [gKp] using gKp_mem hk (List.mem_append_left _ h1)⟩))
  · rcases List.mem_cons.mp h1 with h1 | h1
    · rw [h1]; exact h.2.2 _ List.mem_cons_self
    · exact h.2.2 _ (List.mem_cons_of_mem _ (List.mem_filter.mpr ⟨(show y ∈ [a0, a1, a2, a3, a4, a5, a6, a7] ++ (q, Value.int x) :: B from List.mem_append_right _ (List.mem_cons_of_mem _ h1)), by simpa [gKp] using gKp_mem hk (List.mem_append_right _ h1)⟩))⟩ hP hS hE)
theorem G_st9 {len q : Nat} {v old : Value} {cat2 : Bool} {a0 a1 a2 a3 a4 a5 a6 a7 a8 : Nat × Value} {B : List (Nat × Value)} (hs : gSt Γ M pc len q v cat2) (hk : gKp q cat2 ([a0, a1, a2, a3, a4, a5, a6, a7, a8] ++ B) = true) (kk : G Γ M k n (pc + len) (a0 :: a1 :: a2 :: a3 :: a4 :: a5 :: a6 :: a7 :: a8 :: (q, v) :: B) st T r l i Q) : G Γ M k n pc (a0 :: a1 :: a2 :: a3 :: a4 :: a5 :: a6 :: a7 :: a8 :: (q, old) :: B) (v :: st) T r l i Q := G_stA (A := [a0, a1, a2, a3, a4, a5, a6, a7, a8]) hs hk kk
theorem G_sn9 {len q : Nat} {v : Value} {cat2 : Bool} {a0 a1 a2 a3 a4 a5 a6 a7 a8 : Nat × Value} (hs : gSt Γ M pc len q v cat2) (hk : gKp q cat2 [a0, a1, a2, a3, a4, a5, a6, a7, a8] = true) (kk : G Γ M k n (pc + len) [a0, a1, a2, a3, a4, a5, a6, a7, a8, (q, v)] st T r l i Q) : G Γ M k n pc [a0, a1, a2, a3, a4, a5, a6, a7, a8] (v :: st) T r l i Q := G_stB (A := [a0, a1, a2, a3, a4, a5, a6, a7, a8]) hs hk kk
theorem G_iinc9 {q : Nat} {z : Int} {x : Int32} {a0 a1 a2 a3 a4 a5 a6 a7 a8 : Nat × Value} {B : List (Nat × Value)} (hd : decode M.2.1 pc = .ok (.iinc q z, 3)) (hq : q < M.2.2.1) (hk : gKp q false ([a0, a1, a2, a3, a4, a5, a6, a7, a8] ++ B) = true) (kk : G Γ M k n (pc + 3) (a0 :: a1 :: a2 :: a3 :: a4 :: a5 :: a6 :: a7 :: a8 :: (q, .int (x + Int32.ofInt z)) :: B) st T r l i Q) : G Γ M k n pc (a0 :: a1 :: a2 :: a3 :: a4 :: a5 :: a6 :: a7 :: a8 :: (q, .int x) :: B) st T r l i Q := fun p e s m args below meth c H locs ls X F hls hP hS hE => lv_iinc (k := 9) F.1 F.2.1 hd hls rfl rfl hq rfl (fun ls' h => kk p e s m args below meth c H locs ls' X F ⟨h.1, h.2.1, fun y hy => by
  have hy2 : y ∈ [a0, a1, a2, a3, a4, a5, a6, a7, a8] ++ (q, Value.int (x + Int32.ofInt z)) :: B := hy
  rcases List.mem_append.mp hy2 with h1 | h1
  · exact h.2.2 _ (List.mem_cons_of_mem _ (List.mem_filter.mpr ⟨(show y ∈ [a0, a1, a2, a3, a4, a5, a6, a7, a8] ++ (q, Value.int x) :: B from List.mem_append_left _ h1), by simpa [gKp] using gKp_mem hk (List.mem_append_left _ h1)⟩))
  · rcases List.mem_cons.mp h1 with h1 | h1
    · rw [h1]; exact h.2.2 _ List.mem_cons_self
    · exact h.2.2 _ (List.mem_cons_of_mem _ (List.mem_filter.mpr ⟨(show y ∈ [a0, a1, a2, a3, a4, a5, a6, a7, a8] ++ (q, Value.int x) :: B from List.mem_append_right _ (List.mem_cons_of_mem _ h1)), by simpa [gKp] using gKp_mem hk (List.mem_append_right _ h1)⟩))⟩ hP hS hE)
theorem G_st10 {len q : Nat} {v old : Value} {cat2 : Bool} {a0 a1 a2 a3 a4 a5 a6 a7 a8 a9 : Nat × Value} {B : List (Nat × Value)} (hs : gSt Γ M pc len q v cat2) (hk : gKp q cat2 ([a0, a1, a2, a3, a4, a5, a6, a7, a8, a9] ++ B) = true) (kk : G Γ M k n (pc + len) (a0 :: a1 :: a2 :: a3 :: a4 :: a5 :: a6 :: a7 :: a8 :: a9 :: (q, v) :: B) st T r l i Q) : G Γ M k n pc (a0 :: a1 :: a2 :: a3 :: a4 :: a5 :: a6 :: a7 :: a8 :: a9 :: (q, old) :: B) (v :: st) T r l i Q := G_stA (A := [a0, a1, a2, a3, a4, a5, a6, a7, a8, a9]) hs hk kk
theorem G_sn10 {len q : Nat} {v : Value} {cat2 : Bool} {a0 a1 a2 a3 a4 a5 a6 a7 a8 a9 : Nat × Value} (hs : gSt Γ M pc len q v cat2) (hk : gKp q cat2 [a0, a1, a2, a3, a4, a5, a6, a7, a8, a9] = true) (kk : G Γ M k n (pc + len) [a0, a1, a2, a3, a4, a5, a6, a7, a8, a9, (q, v)] st T r l i Q) : G Γ M k n pc [a0, a1, a2, a3, a4, a5, a6, a7, a8, a9] (v :: st) T r l i Q := G_stB (A := [a0, a1, a2, a3, a4, a5, a6, a7, a8, a9]) hs hk kk
theorem G_iinc10 {q : Nat} {z : Int} {x : Int32} {a0 a1 a2 a3 a4 a5 a6 a7 a8 a9 : Nat × Value} {B : List (Nat × Value)} (hd : decode M.2.1 pc = .ok (.iinc q z, 3)) (hq : q < M.2.2.1) (hk : gKp q false ([a0, a1, a2, a3, a4, a5, a6, a7, a8, a9] ++ B) = true) (kk : G Γ M k n (pc + 3) (a0 :: a1 :: a2 :: a3 :: a4 :: a5 :: a6 :: a7 :: a8 :: a9 :: (q, .int (x + Int32.ofInt z)) :: B) st T r l i Q) : G Γ M k n pc (a0 :: a1 :: a2 :: a3 :: a4 :: a5 :: a6 :: a7 :: a8 :: a9 :: (q, .int x) :: B) st T r l i Q := fun p e s m args below meth c H locs ls X F hls hP hS hE => lv_iinc (k := 10) F.1 F.2.1 hd hls rfl rfl hq rfl (fun ls' h => kk p e s m args below meth c H locs ls' X F ⟨h.1, h.2.1, fun y hy => by
  have hy2 : y ∈ [a0, a1, a2, a3, a4, a5, a6, a7, a8, a9] ++ (q, Value.int (x + Int32.ofInt z)) :: B := hy
  rcases List.mem_append.mp hy2 with h1 | h1
  · exact h.2.2 _ (List.mem_cons_of_mem _ (List.mem_filter.mpr ⟨(show y ∈ [a0, a1, a2, a3, a4, a5, a6, a7, a8, a9] ++ (q, Value.int x) :: B from List.mem_append_left _ h1), by simpa [gKp] using gKp_mem hk (List.mem_append_left _ h1)⟩))
  · rcases List.mem_cons.mp h1 with h1 | h1
    · rw [h1]; exact h.2.2 _ List.mem_cons_self
    · exact h.2.2 _ (List.mem_cons_of_mem _ (List.mem_filter.mpr ⟨(show y ∈ [a0, a1, a2, a3, a4, a5, a6, a7, a8, a9] ++ (q, Value.int x) :: B from List.mem_append_right _ (List.mem_cons_of_mem _ h1)), by simpa [gKp] using gKp_mem hk (List.mem_append_right _ h1)⟩))⟩ hP hS hE)
theorem G_st11 {len q : Nat} {v old : Value} {cat2 : Bool} {a0 a1 a2 a3 a4 a5 a6 a7 a8 a9 a10 : Nat × Value} {B : List (Nat × Value)} (hs : gSt Γ M pc len q v cat2) (hk : gKp q cat2 ([a0, a1, a2, a3, a4, a5, a6, a7, a8, a9, a10] ++ B) = true) (kk : G Γ M k n (pc + len) (a0 :: a1 :: a2 :: a3 :: a4 :: a5 :: a6 :: a7 :: a8 :: a9 :: a10 :: (q, v) :: B) st T r l i Q) : G Γ M k n pc (a0 :: a1 :: a2 :: a3 :: a4 :: a5 :: a6 :: a7 :: a8 :: a9 :: a10 :: (q, old) :: B) (v :: st) T r l i Q := G_stA (A := [a0, a1, a2, a3, a4, a5, a6, a7, a8, a9, a10]) hs hk kk
theorem G_sn11 {len q : Nat} {v : Value} {cat2 : Bool} {a0 a1 a2 a3 a4 a5 a6 a7 a8 a9 a10 : Nat × Value} (hs : gSt Γ M pc len q v cat2) (hk : gKp q cat2 [a0, a1, a2, a3, a4, a5, a6, a7, a8, a9, a10] = true) (kk : G Γ M k n (pc + len) [a0, a1, a2, a3, a4, a5, a6, a7, a8, a9, a10, (q, v)] st T r l i Q) : G Γ M k n pc [a0, a1, a2, a3, a4, a5, a6, a7, a8, a9, a10] (v :: st) T r l i Q := G_stB (A := [a0, a1, a2, a3, a4, a5, a6, a7, a8, a9, a10]) hs hk kk
theorem G_iinc11 {q : Nat} {z : Int} {x : Int32} {a0 a1 a2 a3 a4 a5 a6 a7 a8 a9 a10 : Nat × Value} {B : List (Nat × Value)} (hd : decode M.2.1 pc = .ok (.iinc q z, 3)) (hq : q < M.2.2.1) (hk : gKp q false ([a0, a1, a2, a3, a4, a5, a6, a7, a8, a9, a10] ++ B) = true) (kk : G Γ M k n (pc + 3) (a0 :: a1 :: a2 :: a3 :: a4 :: a5 :: a6 :: a7 :: a8 :: a9 :: a10 :: (q, .int (x + Int32.ofInt z)) :: B) st T r l i Q) : G Γ M k n pc (a0 :: a1 :: a2 :: a3 :: a4 :: a5 :: a6 :: a7 :: a8 :: a9 :: a10 :: (q, .int x) :: B) st T r l i Q := fun p e s m args below meth c H locs ls X F hls hP hS hE => lv_iinc (k := 11) F.1 F.2.1 hd hls rfl rfl hq rfl (fun ls' h => kk p e s m args below meth c H locs ls' X F ⟨h.1, h.2.1, fun y hy => by
  have hy2 : y ∈ [a0, a1, a2, a3, a4, a5, a6, a7, a8, a9, a10] ++ (q, Value.int (x + Int32.ofInt z)) :: B := hy
  rcases List.mem_append.mp hy2 with h1 | h1
  · exact h.2.2 _ (List.mem_cons_of_mem _ (List.mem_filter.mpr ⟨(show y ∈ [a0, a1, a2, a3, a4, a5, a6, a7, a8, a9, a10] ++ (q, Value.int x) :: B from List.mem_append_left _ h1), by simpa [gKp] using gKp_mem hk (List.mem_append_left _ h1)⟩))
  · rcases List.mem_cons.mp h1 with h1 | h1
    · rw [h1]; exact h.2.2 _ List.mem_cons_self
    · exact h.2.2 _ (List.mem_cons_of_mem _ (List.mem_filter.mpr ⟨(show y ∈ [a0, a1, a2, a3, a4, a5, a6, a7, a8, a9, a10] ++ (q, Value.int x) :: B from List.mem_append_right _ (List.mem_cons_of_mem _ h1)), by simpa [gKp] using gKp_mem hk (List.mem_append_right _ h1)⟩))⟩ hP hS hE)
theorem G_st12 {len q : Nat} {v old : Value} {cat2 : Bool} {a0 a1 a2 a3 a4 a5 a6 a7 a8 a9 a10 a11 : Nat × Value} {B : List (Nat × Value)} (hs : gSt Γ M pc len q v cat2) (hk : gKp q cat2 ([a0, a1, a2, a3, a4, a5, a6, a7, a8, a9, a10, a11] ++ B) = true) (kk : G Γ M k n (pc + len) (a0 :: a1 :: a2 :: a3 :: a4 :: a5 :: a6 :: a7 :: a8 :: a9 :: a10 :: a11 :: (q, v) :: B) st T r l i Q) : G Γ M k n pc (a0 :: a1 :: a2 :: a3 :: a4 :: a5 :: a6 :: a7 :: a8 :: a9 :: a10 :: a11 :: (q, old) :: B) (v :: st) T r l i Q := G_stA (A := [a0, a1, a2, a3, a4, a5, a6, a7, a8, a9, a10, a11]) hs hk kk
theorem G_sn12 {len q : Nat} {v : Value} {cat2 : Bool} {a0 a1 a2 a3 a4 a5 a6 a7 a8 a9 a10 a11 : Nat × Value} (hs : gSt Γ M pc len q v cat2) (hk : gKp q cat2 [a0, a1, a2, a3, a4, a5, a6, a7, a8, a9, a10, a11] = true) (kk : G Γ M k n (pc + len) [a0, a1, a2, a3, a4, a5, a6, a7, a8, a9, a10, a11, (q, v)] st T r l i Q) : G Γ M k n pc [a0, a1, a2, a3, a4, a5, a6, a7, a8, a9, a10, a11] (v :: st) T r l i Q := G_stB (A := [a0, a1, a2, a3, a4, a5, a6, a7, a8, a9, a10, a11]) hs hk kk
theorem G_iinc12 {q : Nat} {z : Int} {x : Int32} {a0 a1 a2 a3 a4 a5 a6 a7 a8 a9 a10 a11 : Nat × Value} {B : List (Nat × Value)} (hd : decode M.2.1 pc = .ok (.iinc q z, 3)) (hq : q < M.2.2.1) (hk : gKp q false ([a0, a1, a2, a3, a4, a5, a6, a7, a8, a9, a10, a11] ++ B) = true) (kk : G Γ M k n (pc + 3) (a0 :: a1 :: a2 :: a3 :: a4 :: a5 :: a6 :: a7 :: a8 :: a9 :: a10 :: a11 :: (q, .int (x + Int32.ofInt z)) :: B) st T r l i Q) : G Γ M k n pc (a0 :: a1 :: a2 :: a3 :: a4 :: a5 :: a6 :: a7 :: a8 :: a9 :: a10 :: a11 :: (q, .int x) :: B) st T r l i Q := fun p e s m args below meth c H locs ls X F hls hP hS hE => lv_iinc (k := 12) F.1 F.2.1 hd hls rfl rfl hq rfl (fun ls' h => kk p e s m args below meth c H locs ls' X F ⟨h.1, h.2.1, fun y hy => by
  have hy2 : y ∈ [a0, a1, a2, a3, a4, a5, a6, a7, a8, a9, a10, a11] ++ (q, Value.int (x + Int32.ofInt z)) :: B := hy
  rcases List.mem_append.mp hy2 with h1 | h1
  · exact h.2.2 _ (List.mem_cons_of_mem _ (List.mem_filter.mpr ⟨(show y ∈ [a0, a1, a2, a3, a4, a5, a6, a7, a8, a9, a10, a11] ++ (q, Value.int x) :: B from List.mem_append_left _ h1), by simpa [gKp] using gKp_mem hk (List.mem_append_left _ h1)⟩))
  · rcases List.mem_cons.mp h1 with h1 | h1
    · rw [h1]; exact h.2.2 _ List.mem_cons_self
    · exact h.2.2 _ (List.mem_cons_of_mem _ (List.mem_filter.mpr ⟨(show y ∈ [a0, a1, a2, a3, a4, a5, a6, a7, a8, a9, a10, a11] ++ (q, Value.int x) :: B from List.mem_append_right _ (List.mem_cons_of_mem _ h1)), by simpa [gKp] using gKp_mem hk (List.mem_append_right _ h1)⟩))⟩ hP hS hE)
theorem G_st13 {len q : Nat} {v old : Value} {cat2 : Bool} {a0 a1 a2 a3 a4 a5 a6 a7 a8 a9 a10 a11 a12 : Nat × Value} {B : List (Nat × Value)} (hs : gSt Γ M pc len q v cat2) (hk : gKp q cat2 ([a0, a1, a2, a3, a4, a5, a6, a7, a8, a9, a10, a11, a12] ++ B) = true) (kk : G Γ M k n (pc + len) (a0 :: a1 :: a2 :: a3 :: a4 :: a5 :: a6 :: a7 :: a8 :: a9 :: a10 :: a11 :: a12 :: (q, v) :: B) st T r l i Q) : G Γ M k n pc (a0 :: a1 :: a2 :: a3 :: a4 :: a5 :: a6 :: a7 :: a8 :: a9 :: a10 :: a11 :: a12 :: (q, old) :: B) (v :: st) T r l i Q := G_stA (A := [a0, a1, a2, a3, a4, a5, a6, a7, a8, a9, a10, a11, a12]) hs hk kk
theorem G_sn13 {len q : Nat} {v : Value} {cat2 : Bool} {a0 a1 a2 a3 a4 a5 a6 a7 a8 a9 a10 a11 a12 : Nat × Value} (hs : gSt Γ M pc len q v cat2) (hk : gKp q cat2 [a0, a1, a2, a3, a4, a5, a6, a7, a8, a9, a10, a11, a12] = true) (kk : G Γ M k n (pc + len) [a0, a1, a2, a3, a4, a5, a6, a7, a8, a9, a10, a11, a12, (q, v)] st T r l i Q) : G Γ M k n pc [a0, a1, a2, a3, a4, a5, a6, a7, a8, a9, a10, a11, a12] (v :: st) T r l i Q := G_stB (A := [a0, a1, a2, a3, a4, a5, a6, a7, a8, a9, a10, a11, a12]) hs hk kk
theorem G_iinc13 {q : Nat} {z : Int} {x : Int32} {a0 a1 a2 a3 a4 a5 a6 a7 a8 a9 a10 a11 a12 : Nat × Value} {B : List (Nat × Value)} (hd : decode M.2.1 pc = .ok (.iinc q z, 3)) (hq : q < M.2.2.1) (hk : gKp q false ([a0, a1, a2, a3, a4, a5, a6, a7, a8, a9, a10, a11, a12] ++ B) = true) (kk : G Γ M k n (pc + 3) (a0 :: a1 :: a2 :: a3 :: a4 :: a5 :: a6 :: a7 :: a8 :: a9 :: a10 :: a11 :: a12 :: (q, .int (x + Int32.ofInt z)) :: B) st T r l i Q) : G Γ M k n pc (a0 :: a1 :: a2 :: a3 :: a4 :: a5 :: a6 :: a7 :: a8 :: a9 :: a10 :: a11 :: a12 :: (q, .int x) :: B) st T r l i Q := fun p e s m args below meth c H locs ls X F hls hP hS hE => lv_iinc (k := 13) F.1 F.2.1 hd hls rfl rfl hq rfl (fun ls' h => kk p e s m args below meth c H locs ls' X F ⟨h.1, h.2.1, fun y hy => by
  have hy2 : y ∈ [a0, a1, a2, a3, a4, a5, a6, a7, a8, a9, a10, a11, a12] ++ (q, Value.int (x + Int32.ofInt z)) :: B := hy
  rcases List.mem_append.mp hy2 with h1 | h1
  · exact h.2.2 _ (List.mem_cons_of_mem _ (List.mem_filter.mpr ⟨(show y ∈ [a0, a1, a2, a3, a4, a5, a6, a7, a8, a9, a10, a11, a12] ++ (q, Value.int x) :: B from List.mem_append_left _ h1), by simpa [gKp] using gKp_mem hk (List.mem_append_left _ h1)⟩))
  · rcases List.mem_cons.mp h1 with h1 | h1
    · rw [h1]; exact h.2.2 _ List.mem_cons_self
    · exact h.2.2 _ (List.mem_cons_of_mem _ (List.mem_filter.mpr ⟨(show y ∈ [a0, a1, a2, a3, a4, a5, a6, a7, a8, a9, a10, a11, a12] ++ (q, Value.int x) :: B from List.mem_append_right _ (List.mem_cons_of_mem _ h1)), by simpa [gKp] using gKp_mem hk (List.mem_append_right _ h1)⟩))⟩ hP hS hE)
theorem G_st14 {len q : Nat} {v old : Value} {cat2 : Bool} {a0 a1 a2 a3 a4 a5 a6 a7 a8 a9 a10 a11 a12 a13 : Nat × Value} {B : List (Nat × Value)} (hs : gSt Γ M pc len q v cat2) (hk : gKp q cat2 ([a0, a1, a2, a3, a4, a5, a6, a7, a8, a9, a10, a11, a12, a13] ++ B) = true) (kk : G Γ M k n (pc + len) (a0 :: a1 :: a2 :: a3 :: a4 :: a5 :: a6 :: a7 :: a8 :: a9 :: a10 :: a11 :: a12 :: a13 :: (q, v) :: B) st T r l i Q) : G Γ M k n pc (a0 :: a1 :: a2 :: a3 :: a4 :: a5 :: a6 :: a7 :: a8 :: a9 :: a10 :: a11 :: a12 :: a13 :: (q, old) :: B) (v :: st) T r l i Q := G_stA (A := [a0, a1, a2, a3, a4, a5, a6, a7, a8, a9, a10, a11, a12, a13]) hs hk kk
theorem G_sn14 {len q : Nat} {v : Value} {cat2 : Bool} {a0 a1 a2 a3 a4 a5 a6 a7 a8 a9 a10 a11 a12 a13 : Nat × Value} (hs : gSt Γ M pc len q v cat2) (hk : gKp q cat2 [a0, a1, a2, a3, a4, a5, a6, a7, a8, a9, a10, a11, a12, a13] = true) (kk : G Γ M k n (pc + len) [a0, a1, a2, a3, a4, a5, a6, a7, a8, a9, a10, a11, a12, a13, (q, v)] st T r l i Q) : G Γ M k n pc [a0, a1, a2, a3, a4, a5, a6, a7, a8, a9, a10, a11, a12, a13] (v :: st) T r l i Q := G_stB (A := [a0, a1, a2, a3, a4, a5, a6, a7, a8, a9, a10, a11, a12, a13]) hs hk kk
theorem G_iinc14 {q : Nat} {z : Int} {x : Int32} {a0 a1 a2 a3 a4 a5 a6 a7 a8 a9 a10 a11 a12 a13 : Nat × Value} {B : List (Nat × Value)} (hd : decode M.2.1 pc = .ok (.iinc q z, 3)) (hq : q < M.2.2.1) (hk : gKp q false ([a0, a1, a2, a3, a4, a5, a6, a7, a8, a9, a10, a11, a12, a13] ++ B) = true) (kk : G Γ M k n (pc + 3) (a0 :: a1 :: a2 :: a3 :: a4 :: a5 :: a6 :: a7 :: a8 :: a9 :: a10 :: a11 :: a12 :: a13 :: (q, .int (x + Int32.ofInt z)) :: B) st T r l i Q) : G Γ M k n pc (a0 :: a1 :: a2 :: a3 :: a4 :: a5 :: a6 :: a7 :: a8 :: a9 :: a10 :: a11 :: a12 :: a13 :: (q, .int x) :: B) st T r l i Q := fun p e s m args below meth c H locs ls X F hls hP hS hE => lv_iinc (k := 14) F.1 F.2.1 hd hls rfl rfl hq rfl (fun ls' h => kk p e s m args below meth c H locs ls' X F ⟨h.1, h.2.1, fun y hy => by
  have hy2 : y ∈ [a0, a1, a2, a3, a4, a5, a6, a7, a8, a9, a10, a11, a12, a13] ++ (q, Value.int (x + Int32.ofInt z)) :: B := hy
  rcases List.mem_append.mp hy2 with h1 | h1
  · exact h.2.2 _ (List.mem_cons_of_mem _ (List.mem_filter.mpr ⟨(show y ∈ [a0, a1, a2, a3, a4, a5, a6, a7, a8, a9, a10, a11, a12, a13] ++ (q, Value.int x) :: B from List.mem_append_left _ h1), by simpa [gKp] using gKp_mem hk (List.mem_append_left _ h1)⟩))
  · rcases List.mem_cons.mp h1 with h1 | h1
    · rw [h1]; exact h.2.2 _ List.mem_cons_self
    · exact h.2.2 _ (List.mem_cons_of_mem _ (List.mem_filter.mpr ⟨(show y ∈ [a0, a1, a2, a3, a4, a5, a6, a7, a8, a9, a10, a11, a12, a13] ++ (q, Value.int x) :: B from List.mem_append_right _ (List.mem_cons_of_mem _ h1)), by simpa [gKp] using gKp_mem hk (List.mem_append_right _ h1)⟩))⟩ hP hS hE)
theorem G_st15 {len q : Nat} {v old : Value} {cat2 : Bool} {a0 a1 a2 a3 a4 a5 a6 a7 a8 a9 a10 a11 a12 a13 a14 : Nat × Value} {B : List (Nat × Value)} (hs : gSt Γ M pc len q v cat2) (hk : gKp q cat2 ([a0, a1, a2, a3, a4, a5, a6, a7, a8, a9, a10, a11, a12, a13, a14] ++ B) = true) (kk : G Γ M k n (pc + len) (a0 :: a1 :: a2 :: a3 :: a4 :: a5 :: a6 :: a7 :: a8 :: a9 :: a10 :: a11 :: a12 :: a13 :: a14 :: (q, v) :: B) st T r l i Q) : G Γ M k n pc (a0 :: a1 :: a2 :: a3 :: a4 :: a5 :: a6 :: a7 :: a8 :: a9 :: a10 :: a11 :: a12 :: a13 :: a14 :: (q, old) :: B) (v :: st) T r l i Q := G_stA (A := [a0, a1, a2, a3, a4, a5, a6, a7, a8, a9, a10, a11, a12, a13, a14]) hs hk kk
theorem G_sn15 {len q : Nat} {v : Value} {cat2 : Bool} {a0 a1 a2 a3 a4 a5 a6 a7 a8 a9 a10 a11 a12 a13 a14 : Nat × Value} (hs : gSt Γ M pc len q v cat2) (hk : gKp q cat2 [a0, a1, a2, a3, a4, a5, a6, a7, a8, a9, a10, a11, a12, a13, a14] = true) (kk : G Γ M k n (pc + len) [a0, a1, a2, a3, a4, a5, a6, a7, a8, a9, a10, a11, a12, a13, a14, (q, v)] st T r l i Q) : G Γ M k n pc [a0, a1, a2, a3, a4, a5, a6, a7, a8, a9, a10, a11, a12, a13, a14] (v :: st) T r l i Q := G_stB (A := [a0, a1, a2, a3, a4, a5, a6, a7, a8, a9, a10, a11, a12, a13, a14]) hs hk kk
theorem G_iinc15 {q : Nat} {z : Int} {x : Int32} {a0 a1 a2 a3 a4 a5 a6 a7 a8 a9 a10 a11 a12 a13 a14 : Nat × Value} {B : List (Nat × Value)} (hd : decode M.2.1 pc = .ok (.iinc q z, 3)) (hq : q < M.2.2.1) (hk : gKp q false ([a0, a1, a2, a3, a4, a5, a6, a7, a8, a9, a10, a11, a12, a13, a14] ++ B) = true) (kk : G Γ M k n (pc + 3) (a0 :: a1 :: a2 :: a3 :: a4 :: a5 :: a6 :: a7 :: a8 :: a9 :: a10 :: a11 :: a12 :: a13 :: a14 :: (q, .int (x + Int32.ofInt z)) :: B) st T r l i Q) : G Γ M k n pc (a0 :: a1 :: a2 :: a3 :: a4 :: a5 :: a6 :: a7 :: a8 :: a9 :: a10 :: a11 :: a12 :: a13 :: a14 :: (q, .int x) :: B) st T r l i Q := fun p e s m args below meth c H locs ls X F hls hP hS hE => lv_iinc (k := 15) F.1 F.2.1 hd hls rfl rfl hq rfl (fun ls' h => kk p e s m args below meth c H locs ls' X F ⟨h.1, h.2.1, fun y hy => by
  have hy2 : y ∈ [a0, a1, a2, a3, a4, a5, a6, a7, a8, a9, a10, a11, a12, a13, a14] ++ (q, Value.int (x + Int32.ofInt z)) :: B := hy
  rcases List.mem_append.mp hy2 with h1 | h1
  · exact h.2.2 _ (List.mem_cons_of_mem _ (List.mem_filter.mpr ⟨(show y ∈ [a0, a1, a2, a3, a4, a5, a6, a7, a8, a9, a10, a11, a12, a13, a14] ++ (q, Value.int x) :: B from List.mem_append_left _ h1), by simpa [gKp] using gKp_mem hk (List.mem_append_left _ h1)⟩))
  · rcases List.mem_cons.mp h1 with h1 | h1
    · rw [h1]; exact h.2.2 _ List.mem_cons_self
    · exact h.2.2 _ (List.mem_cons_of_mem _ (List.mem_filter.mpr ⟨(show y ∈ [a0, a1, a2, a3, a4, a5, a6, a7, a8, a9, a10, a11, a12, a13, a14] ++ (q, Value.int x) :: B from List.mem_append_right _ (List.mem_cons_of_mem _ h1)), by simpa [gKp] using gKp_mem hk (List.mem_append_right _ h1)⟩))⟩ hP hS hE)
end GR
end
section
/-- what getfield and putfield need of the tables: field j of class ci, of kind t (0 ref, 1 int, 2 long), of type ty -/
def gFl (own : String) (idx ci j t : Nat) (ty : FieldType) (fin : Bool) : Prop := ∃ (C : String) (Tb : u_T) (N : Nat) (ty0 : Nat → FieldType), vwCl[ci]? = some (C, Tb, N) ∧ j < N ∧ (gT ci)[j]? = some t ∧ ci < 13 ∧ (∀ w ∈ u_ws C Tb N, w ∈ gw) ∧ (∀ k, k < N → parseFieldDescriptor (Tb k).2.2.1 = some (ty0 k)) ∧ (∀ a, a < N → ∀ b, b < N → a ≠ b → (Tb a).2.1 ≠ (Tb b).2.1) ∧ ty0 j = ty ∧ (Tb j).2.2.2 = fin ∧ (gT ci).length = N ∧ (Cond.fieldLink own idx (Tb j).1 (Tb j).2.1 (Tb j).2.2.1 ∈ gw ∨ ∃ host, Cond.fieldLinkNest own idx (Tb j).1 (Tb j).2.1 (Tb j).2.2.1 host ∈ gnw)
/-- .. and a final one in its constructor -/
def gFf (own : String) (idx ci j : Nat) (ty : FieldType) : Prop := ∃ (Tb : u_T) (N : Nat) (ty0 : Nat → FieldType), vwCl[ci]? = some (own, Tb, N) ∧ j < N ∧ (gT ci)[j]? = some 0 ∧ ci < 13 ∧ (∀ w ∈ u_ws own Tb N, w ∈ gw) ∧ (∀ k, k < N → parseFieldDescriptor (Tb k).2.2.1 = some (ty0 k)) ∧ (∀ a, a < N → ∀ b, b < N → a ≠ b → (Tb a).2.1 ≠ (Tb b).2.1) ∧ ty0 j = ty ∧ (Tb j).2.2.2 = true ∧ (gT ci).length = N ∧ (Tb j).1 = own ∧ Cond.fieldLink own idx (Tb j).1 (Tb j).2.1 (Tb j).2.2.1 ∈ gw
theorem gF_kind {ci j t : Nat} (h : (gT ci)[j]? = some t) (r : Nat → Option Nat) (l : Nat → Int64) (i : Nat → Int32) : (gF (gT ci) 0 r l i)[j]? = some (gV t (r j) (l j) (i j)) := by rw [gF_get, h, Nat.zero_add]; rfl
def up2 {α : Type} (f : Nat → Nat → α) (a j : Nat) (x : α) : Nat → Nat → α := va_up f a (fun q => if q = j then x else f a q)
theorem up2_ne {α : Type} {f : Nat → Nat → α} {a j : Nat} {x : α} {b : Nat} (h : b ≠ a) : up2 f a j x b = f b := by unfold up2 va_up; rw [if_neg h]
theorem up2_at {α : Type} (f : Nat → Nat → α) (a j : Nat) (x : α) : up2 f a j x a = fun q => if q = j then x else f a q := by unfold up2 va_up; rw [if_pos rfl]
theorem up2_self {α : Type} (f : Nat → Nat → α) (a j : Nat) (x : α) : up2 f a j x a j = x := by rw [up2_at]; simp
theorem up2_row {α : Type} {f : Nat → Nat → α} {a j q : Nat} {x : α} (h : q ≠ j) : up2 f a j x a q = f a q := by rw [up2_at]; simp [h]
theorem up2_def {α : Type} (f : Nat → Nat → α) (a j : Nat) (x : α) (b q : Nat) : up2 f a j x b q = if b = a then (if q = j then x else f a q) else f b q := by
  unfold up2 va_up
  by_cases h : b = a
  · simp [h]
  · simp [h]
section GH
variable {Γ : gG} {M N : gM} {k n pc : Nat} {L : List (Nat × Value)} {st : List Value} {T : gTy} {r : gR} {l : gLg} {i : gI} {Q : gQ}
theorem gGet {idx ci j a t : Nat} {ty : FieldType} {fin : Bool} (hd : decode M.2.1 pc = .ok (.getfield idx, 3)) (hf : gFl M.1.cls idx ci j t ty fin) (hk : (T.2 a).1 = ci) (kk : G Γ M k n (pc + 3) L (gV t (r a j) (l a j) (i a j) :: st) T r l i Q) : G Γ M k n pc L (.ref a :: st) T r l i Q := by
  intro p e s m args below meth c H locs ls X F hls hP hS hE
  obtain ⟨C, Tb, N, ty0, hcl, hj, ht, hci, hin, hty, hnm, -, -, -, hl⟩ := hf
  have hv := gF_kind ht (r a) (l a) (i a)
  rcases hl with hl | ⟨host, hl⟩
  · exact va_get (own := M.1.cls) (ref := (Tb j).1) F.1 F.2.1 F.2.2.2.2.1 hin F.2.2.2.1 F.2.2.2.2.2.1.2.1 (gP1 (hP.obj hk hci)) 0 rfl hcl j hj (F.2.2.2.2.1 _ hl) (fun _ h => h) hv hd (kk p e s m args below meth c H locs ls X F hls hP hS hE)
  · exact va_getN (own := M.1.cls) (ref := (Tb j).1) (host := host) F.1 F.2.1 F.2.2.2.2.1 hin F.2.2.2.1 F.2.2.2.2.2.1.2.1 (gP1 (hP.obj hk hci)) 0 rfl hcl j hj (va_Nw.use rfl (F.2.2.2.2.2.1.1 _ hl)) (fun _ h => h) hv hd (kk p e s m args below meth c H locs ls X F hls hP hS hE)
theorem G_getI {idx ci j a : Nat} {ty : FieldType} {fin : Bool} (hd : decode M.2.1 pc = .ok (.getfield idx, 3)) (hf : gFl M.1.cls idx ci j 1 ty fin) (hk : (T.2 a).1 = ci) (kk : G Γ M k n (pc + 3) L (.int (i a j) :: st) T r l i Q) : G Γ M k n pc L (.ref a :: st) T r l i Q := gGet hd hf hk kk
theorem G_getL {idx ci j a : Nat} {ty : FieldType} {fin : Bool} (hd : decode M.2.1 pc = .ok (.getfield idx, 3)) (hf : gFl M.1.cls idx ci j 2 ty fin) (hk : (T.2 a).1 = ci) (kk : G Γ M k n (pc + 3) L (.long (l a j) :: st) T r l i Q) : G Γ M k n pc L (.ref a :: st) T r l i Q := gGet hd hf hk kk
theorem G_getR {idx ci j a b : Nat} {ty : FieldType} {fin : Bool} (hd : decode M.2.1 pc = .ok (.getfield idx, 3)) (hf : gFl M.1.cls idx ci j 0 ty fin) (hk : (T.2 a).1 = ci) (hr : r a j = some b) (kk : G Γ M k n (pc + 3) L (.ref b :: st) T r l i Q) : G Γ M k n pc L (.ref a :: st) T r l i Q := gGet hd hf hk (by rw [hr]; exact kk)
/-- the put, over the heap: the object's cell with its new field, all others as they were -/
theorem gPut {idx ci j a t : Nat} {ty : FieldType} {v : Value} (hd : decode M.2.1 pc = .ok (.putfield idx, 3)) (hf : gFl M.1.cls idx ci j t ty false) (hk : (T.2 a).1 = ci) (hn : narrow ty v = v) (hfit : fits ty v = true) (hA : gN Γ ≤ a) {l' : gLg} {i' : gI} (hl' : ∀ b, b ≠ a → l' b = l b) (hi' : ∀ b, b ≠ a → i' b = i b) (hv : ∀ q t', (gT ci)[q]? = some t' → gV t' (r a q) (l' a q) (i' a q) = if q = j then v else gV t' (r a q) (l a q) (i a q)) (kk : G Γ M k n (pc + 3) L st T r l' i' Q) : G Γ M k n pc L (v :: .ref a :: st) T r l i Q := by
  intro p e s m args below meth c H locs ls X F hls hP hS hE
  obtain ⟨C, Tb, N, ty0, hcl, hj, ht, hci, hin, hty, hnm, htyj, hfin, hN, hl⟩ := hf
  subst htyj
  have hts := F.2.2.2.2.1
  have hK := F.2.2.2.2.2.1.2.1
  have hap := va_apart (own := M.1.cls) hts hin ty0 hty hnm hK hcl
  obtain ⟨rr, h1, cell, q1, q2, q3, q4⟩ := hP.obj hk hci
  have hr : rr = (C, Tb, N) := Option.some.inj (h1.symm.trans hcl)
  subst hr
  obtain ⟨hSl, hfc, kC, hkC, hkind⟩ := hK.1 ci _ hcl
  obtain ⟨cf, kf, fi, f, hi, hsl⟩ := hSl j hj
  have hlay := hts _ (hin _ (u_in_lay hj))
  unfold u_lay at hlay
  rw [if_neg (by rw [hfin]; decide)] at hlay
  have hst := (u_facts hfc hkC (u_lays hts hin hj) hi).1
  have h6 := u_store hfc hkC hkind hlay hi (hty j hj) hn hfit
  have fin : ∀ H' : Heap, H'[a]? = some (cell.setSlot f.slot v) → H'.size = H.size → (∀ q, q ≠ a → H'[q]? = H[q]?) → W p Γ.1 e M.2.2.2.2 s m args below meth c H' (locs ++ [⟨a, f.slot⟩]) k n X (F0 m (pc + 3) ls st) := by
    intro H' e1 e2 e3
    rw [hsl] at e1 ⊢
    refine kk p e s m args below meth c H' _ ls X F hls ?_ (hS.put e2 e3 hA) hE
    have hmid : gPW Γ T r l' i' H' := by
      refine ⟨e2.trans hP.1, hP.2.1, fun b e hb => ?_⟩
      by_cases hba : b = a
      · subst hba
        unfold gE at hb
        rw [hk, if_pos hci] at hb
        cases hb
        refine ⟨_, hcl, t_OB.to (V := updV (vp_V (gF (gT ci) 0 (r b) (l b) (i b))) j v) ⟨_, e1, q2, q3, t_set q4 hap hj v⟩ (fun q hq => ?_)⟩
        rw [gF_at]
        unfold updV
        rw [gF_at]
        have hq2 : q < (gT ci).length := by rw [hN]; exact hq
        rw [List.getElem?_eq_getElem hq2, Option.map_some, Option.map_some, Option.getD_some, Option.getD_some, hv q _ (List.getElem?_eq_getElem hq2)]
      · rw [hl' b hba, hi' b hba] at hb
        exact (hP.2.2 b e hb).kept (e3 b hba)
    exact hmid
  rcases hl with hl | ⟨host, hl⟩
  · exact W.putK F.1 F.2.1 (f := f) ⟨F.2.2.2.1, hts _ hl, ⟨_, _, _, hi⟩, hst⟩ (by rw [q2]; exact h6) q1 q3 (by rw [hsl]; exact k2_hasslot (q4 j hj)) rfl rfl hd fin
  · exact va_WputK F.1 F.2.1 (f := f) F.2.2.2.1 (va_Nw.use rfl (F.2.2.2.2.2.1.1 _ hl)) hi hst (by rw [q2]; exact h6) q1 q3 (by rw [hsl]; exact k2_hasslot (q4 j hj)) rfl rfl hd fin
theorem G_putI {idx ci j a : Nat} {ty : FieldType} {x : Int32} (hd : decode M.2.1 pc = .ok (.putfield idx, 3)) (hf : gFl M.1.cls idx ci j 1 ty false) (hk : (T.2 a).1 = ci) (hn : narrow ty (.int x) = .int x) (hfit : fits ty (.int x) = true) (hA : gN Γ ≤ a) (kk : G Γ M k n (pc + 3) L st T r l (up2 i a j x) Q) : G Γ M k n pc L (.int x :: .ref a :: st) T r l i Q := by
  refine gPut hd hf hk hn hfit hA (fun _ _ => rfl) (fun b hb => up2_ne hb) (fun q t' ht' => ?_) kk
  obtain ⟨C, Tb, N, ty0, hcl, hj, ht, -⟩ := hf
  rw [up2_at]
  by_cases hq : q = j
  · subst hq
    rw [ht] at ht'
    cases ht'
    simp [gV]
  · simp [hq]
theorem G_putL {idx ci j a : Nat} {x : Int64} (hd : decode M.2.1 pc = .ok (.putfield idx, 3)) (hf : gFl M.1.cls idx ci j 2 .long false) (hk : (T.2 a).1 = ci) (hA : gN Γ ≤ a) (kk : G Γ M k n (pc + 3) L st T r (up2 l a j x) i Q) : G Γ M k n pc L (.long x :: .ref a :: st) T r l i Q := by
  refine gPut hd hf hk rfl rfl hA (fun b hb => up2_ne hb) (fun _ _ => rfl) (fun q t' ht' => ?_) kk
  obtain ⟨C, Tb, N, ty0, hcl, hj, ht, -⟩ := hf
  rw [up2_at]
  by_cases hq : q = j
  · subst hq
    rw [ht] at ht'
    cases ht'
    simp [gV]
  · simp [hq]
/-- a final reference in its constructor -/
theorem G_putF {idx ci j a b : Nat} {ty : FieldType} (hd : decode M.2.1 pc = .ok (.putfield idx, 3)) (hf : gFf M.1.cls idx ci j ty) (hinit : M.1.name = "<init>") (hk : (T.2 a).1 = ci) (hn : narrow ty (.ref b) = .ref b) (hfit : fits ty (.ref b) = true) (hA : gN Γ ≤ a) (kk : G Γ M k n (pc + 3) L st T (up2 r a j (some b)) l i Q) : G Γ M k n pc L (.ref b :: .ref a :: st) T r l i Q := by
  intro p e s m args below meth c H locs ls X F hls hP hS hE
  obtain ⟨Tb, N, ty0, hcl, hj, ht, hci, hin, hty, hnm, htyj, hfin, hN, hdecl, hl⟩ := hf
  subst htyj
  have hts := F.2.2.2.2.1
  have hK := F.2.2.2.2.2.1.2.1
  have hap := va_apart (own := M.1.cls) hts hin ty0 hty hnm hK hcl
  obtain ⟨rr, h1, cell, q1, q2, q3, q4⟩ := hP.obj hk hci
  have hr : rr = (M.1.cls, Tb, N) := Option.some.inj (h1.symm.trans hcl)
  subst hr
  obtain ⟨hSl, hfc, kC, hkC, hkind⟩ := hK.1 ci _ hcl
  obtain ⟨cf, kf, fi, f, hi, hsl⟩ := hSl j hj
  have hlay := hts _ (hin _ (u_in_lay hj))
  unfold u_lay at hlay
  rw [if_pos hfin] at hlay
  have hst := (u_facts hfc hkC (u_lays hts hin hj) hi).1
  have h6 := u_fits hfc hkC hkind (u_lays hts hin hj) hi (hty j hj) hn hfit
  have hown : s.vm.findClass (Tb j).1 = some m.cls := by rw [hdecl]; exact F.2.2.2.1
  have hcf : m.cls = cf := by
    have hlay2 : (Cond.laysFinal M.1.cls (Tb j).1 (Tb j).2.1 (Tb j).2.2.1).before args s = true := hlay
    rw [hdecl] at hlay2 hi
    exact laid_decl F.2.2.2.1 hlay2 hi
  refine W.putFinK F.1 F.2.1 F.2.2.2.1 (hts _ hl) hi hst hcf (F.2.2.2.2.2.2.2 hinit) (by rw [q2]; exact h6) q1 q3 (by rw [hsl]; exact k2_hasslot (q4 j hj)) rfl rfl hd fun H' e1 e2 e3 => ?_
  rw [hsl] at e1 ⊢
  refine kk p e s m args below meth c H' _ ls X F hls ?_ (hS.put e2 e3 hA) hE
  refine hP.put e2 e3 (fun b hb => up2_ne hb) (fun _ _ => rfl) (fun e he => ?_)
  unfold gE at he
  rw [hk, if_pos hci] at he
  cases he
  refine ⟨_, hcl, t_OB.to (V := updV (vp_V (gF (gT ci) 0 (r a) (l a) (i a))) j (.ref b)) ⟨_, e1, q2, q3, t_set q4 hap hj _⟩ (fun q hq => ?_)⟩
  rw [gF_at]
  unfold updV
  rw [gF_at]
  have hq2 : q < (gT ci).length := by rw [hN]; exact hq
  rw [List.getElem?_eq_getElem hq2, Option.map_some, Option.map_some, Option.getD_some, Option.getD_some, up2_at]
  by_cases hqj : q = j
  · subst hqj
    rw [List.getElem?_eq_getElem hq2] at ht
    rw [Option.some.inj ht]
    simp [gV, va_rf]
  · simp [hqj]
theorem G_iald {a nn : Nat} {x : Int32} (hd : decode M.2.1 pc = .ok (.iaload, 1)) (hk : T.2 a = (13, nn)) (hin : vp_in x nn) (kk : G Γ M k n (pc + 1) L (.int (i a x.toNatClampNeg) :: st) T r l i Q) : G Γ M k n pc L (.int x :: .ref a :: st) T r l i Q := fun p e s m args below meth c H locs ls X F hls hP hS hE => va_iald F.1 F.2.1 F.2.2.2.2.2.1.2.1 (gP1 (hP.ints hk)) 0 0 rfl rfl hin hd (kk p e s m args below meth c H locs ls X F hls hP hS hE)
theorem G_zald {a nn : Nat} {x : Int32} (hd : decode M.2.1 pc = .ok (.baload, 1)) (hk : T.2 a = (14, nn)) (hin : vp_in x nn) (kk : G Γ M k n (pc + 1) L (.int (i a x.toNatClampNeg) :: st) T r l i Q) : G Γ M k n pc L (.int x :: .ref a :: st) T r l i Q := fun p e s m args below meth c H locs ls X F hls hP hS hE => va_zald F.1 F.2.1 F.2.2.2.2.2.1.2.1 (gP1 (hP.bools hk)) 0 1 rfl rfl hin hd (kk p e s m args below meth c H locs ls X F hls hP hS hE)
theorem G_aaldS {a nn b : Nat} {x : Int32} (hd : decode M.2.1 pc = .ok (.aaload, 1)) (hk : T.2 a = (15, nn)) (hin : vp_in x nn) (hr : r a x.toNatClampNeg = some b) (kk : G Γ M k n (pc + 1) L (.ref b :: st) T r l i Q) : G Γ M k n pc L (.int x :: .ref a :: st) T r l i Q := fun p e s m args below meth c H locs ls X F hls hP hS hE => va_aldq (C := RX6) F.1 F.2.1 F.2.2.2.2.2.1.2.1 (gP1 (hP.refs (Or.inl rfl) hk)) 0 2 rfl rfl hin hd (by rw [hr]; exact kk p e s m args below meth c H locs ls X F hls hP hS hE)
theorem G_aaldW {a nn b : Nat} {x : Int32} (hd : decode M.2.1 pc = .ok (.aaload, 1)) (hk : T.2 a = (16, nn)) (hin : vp_in x nn) (hr : r a x.toNatClampNeg = some b) (kk : G Γ M k n (pc + 1) L (.ref b :: st) T r l i Q) : G Γ M k n pc L (.int x :: .ref a :: st) T r l i Q := fun p e s m args below meth c H locs ls X F hls hP hS hE => va_aldq (C := RX9) F.1 F.2.1 F.2.2.2.2.2.1.2.1 (gP1 (hP.refs (Or.inr rfl) hk)) 0 3 rfl rfl hin hd (by rw [hr]; exact kk p e s m args below meth c H locs ls X F hls hP hS hE)
theorem G_alen {a z nn : Nat} {v : Int32} (hd : decode M.2.1 pc = .ok (.arraylength, 1)) (hz : z = 13 ∨ z = 14) (hk : T.2 a = (z, nn)) (hv : Int32.ofNat nn = v) (kk : G Γ M k n (pc + 1) L (.int v :: st) T r l i Q) : G Γ M k n pc L (.ref a :: st) T r l i Q := fun p e s m args below meth c H locs ls X F hls hP hS hE => by
  rcases hz with rfl | rfl
  · exact va_alen (x := (nn, .inl (i a))) F.1 F.2.1 F.2.2.2.2.2.1.2.1 (gP1 (hP.ints hk)) 0 rfl (ty := .int) (t0 := 0) rfl hv hd (kk p e s m args below meth c H locs ls X F hls hP hS hE)
  · exact va_alen (x := (nn, .inl (i a))) F.1 F.2.1 F.2.2.2.2.2.1.2.1 (gP1 (hP.bools hk)) 0 rfl (ty := .boolean) (t0 := 1) rfl hv hd (kk p e s m args below meth c H locs ls X F hls hP hS hE)
theorem G_iast {a nn : Nat} {x y : Int32} (hd : decode M.2.1 pc = .ok (.iastore, 1)) (hk : T.2 a = (13, nn)) (hin : vp_in x nn) (hA : gN Γ ≤ a) (kk : G Γ M k n (pc + 1) L st T r l (up2 i a x.toNatClampNeg y) Q) : G Γ M k n pc L (.int y :: .int x :: .ref a :: st) T r l i Q := by
  intro p e s m args below meth c H locs ls X F hls hP hS hE
  refine W.iast F.1 F.2.1 (hP.ints hk) ((F.2.2.2.2.2.1.2.1.2 0 _ rfl).1 nn (fun j => .int (i a j))) (fun q => by cases q) (by show ¬ (x < 0 ∨ (arrV _ _ _).slots.size ≤ _); rw [arrV_size]; exact hin) rfl rfl hd fun H1 e1 z oq => ?_
  refine kk p e s m args below meth c H1 _ ls X F hls ?_ (hS.put z oq hA) hE
  refine hP.put z oq (fun _ _ => rfl) (fun b hb => up2_ne hb) (fun e he => ?_)
  unfold gE at he
  rw [hk] at he
  cases he
  show H1[a]? = some (vp_cell _ _)
  rw [e1, vp_cell_i, vp_cell_i, arrV_store]
  congr 2
  funext q
  rw [up2_at]
  unfold updV
  by_cases hq : q = x.toNatClampNeg <;> simp [hq]
theorem G_zast {a nn : Nat} {x y : Int32} (hd : decode M.2.1 pc = .ok (.bastore, 1)) (hk : T.2 a = (14, nn)) (hin : vp_in x nn) (hy : narrow .boolean (.int y) = .int y) (hA : gN Γ ≤ a) (kk : G Γ M k n (pc + 1) L st T r l (up2 i a x.toNatClampNeg y) Q) : G Γ M k n pc L (.int y :: .int x :: .ref a :: st) T r l i Q := by
  intro p e s m args below meth c H locs ls X F hls hP hS hE
  refine W.zast F.1 F.2.1 (hP.bools hk) ((F.2.2.2.2.2.1.2.1.2 1 _ rfl).1 nn (fun j => .int (i a j))) (fun q => by cases q) (by show ¬ (x < 0 ∨ (arrV _ _ _).slots.size ≤ _); rw [arrV_size]; exact hin) rfl rfl hd fun H1 e1 z oq => ?_
  refine kk p e s m args below meth c H1 _ ls X F hls ?_ (hS.put z oq hA) hE
  refine hP.put z oq (fun _ _ => rfl) (fun b hb => up2_ne hb) (fun e he => ?_)
  unfold gE at he
  rw [hk] at he
  cases he
  show H1[a]? = some (vp_cell _ _)
  rw [e1, hy, vp_cell_i, vp_cell_i, arrV_store]
  congr 2
  funext q
  rw [up2_at]
  unfold updV
  by_cases hq : q = x.toNatClampNeg <;> simp [hq]
theorem gAast {a nn b z ci : Nat} {x : Int32} {cA : ClassId} {rr : vw_C} {t0 : Nat} (hd : decode M.2.1 pc = .ok (.aastore, 1)) (hz : z = 15 ∨ z = 16) (hk : T.2 a = (z, nn)) (hcA : cA = if z = 15 then gcS Γ else gcW Γ) (ht : (gtys Γ)[t0]? = some (cA, .object rr.1)) (hb : (T.2 b).1 = ci) (hci : ci < 13) (hc : vwCl[ci]? = some rr) (hin : vp_in x nn) (hA : gN Γ ≤ a) (kk : G Γ M k n (pc + 1) L st T (up2 r a x.toNatClampNeg (some b)) l i Q) : G Γ M k n pc L (.ref b :: .int x :: .ref a :: st) T r l i Q := by
  intro p e s m args below meth c H locs ls X F hls hP hS hE
  have hlt : x.toNatClampNeg < nn := Nat.not_le.mp fun q => hin (Or.inr q)
  have h0 : ¬ x < 0 := fun q => hin (Or.inl q)
  have hK := F.2.2.2.2.2.1.2.1
  obtain ⟨r', hr', cellV, g1, g2, g3, -⟩ := hP.obj hb hci
  have hcls := (hK.1 ci rr hc).2
  obtain ⟨kA, comp, k1, k2, k3, -⟩ := (hK.2 t0 _ ht).2
  have hcomp : comp = (gD Γ).1 ci := Option.some.inj (k3.symm.trans hcls.1)
  subst hcomp
  obtain ⟨kC, hkC, -⟩ := hcls.2
  have hcell : H[a]? = some (vp_cell cA (nn, .inr (.inr (.inr (.inr (r a)))))) := by rw [hcA]; exact hP.refs hz hk
  refine W.aast F.1 F.2.1 hcell (fun q h => by cases h) (fun h => by cases h) k1 k2 rfl hkC ⟨h0, by show _ < (arrV _ _ _).slots.size; rw [arrV_size]; exact hlt⟩ g1 (fun q h => by rw [g3] at h; cases h) (by rw [g2]; exact hkC) (by rw [g2]; exact va_assign hcls) rfl rfl hd fun H1 e1 z1 oq => ?_
  refine kk p e s m args below meth c H1 _ ls X F hls ?_ (hS.put z1 oq hA) hE
  refine hP.put z1 oq (fun b hb => up2_ne hb) (fun _ _ => rfl) (fun e he => ?_)
  have hcell2 : H1[a]? = some (vp_cell cA (nn, .inr (.inr (.inr (.inr (up2 r a x.toNatClampNeg (some b) a)))))) := by
    rw [e1, vp_cell_q, vp_cell_q, arrV_store]
    congr 2
    funext q
    rw [up2_at]
    unfold updV
    by_cases hq : q = x.toNatClampNeg <;> simp [hq, va_rf]
  unfold gE at he
  rw [hk] at he
  rw [hcA] at hcell2
  rcases hz with rfl | rfl <;> (cases he; exact hcell2)
theorem G_aastS {a nn b : Nat} {x : Int32} (hd : decode M.2.1 pc = .ok (.aastore, 1)) (hk : T.2 a = (15, nn)) (hb : (T.2 b).1 = 6) (hin : vp_in x nn) (hA : gN Γ ≤ a) (kk : G Γ M k n (pc + 1) L st T (up2 r a x.toNatClampNeg (some b)) l i Q) : G Γ M k n pc L (.ref b :: .int x :: .ref a :: st) T r l i Q := gAast (t0 := 2) (rr := (RX6, TX6, 3)) hd (Or.inl rfl) hk rfl rfl hb (by decide) rfl hin hA kk
theorem G_aastW {a nn b : Nat} {x : Int32} (hd : decode M.2.1 pc = .ok (.aastore, 1)) (hk : T.2 a = (16, nn)) (hb : (T.2 b).1 = 9) (hin : vp_in x nn) (hA : gN Γ ≤ a) (kk : G Γ M k n (pc + 1) L st T (up2 r a x.toNatClampNeg (some b)) l i Q) : G Γ M k n pc L (.ref b :: .int x :: .ref a :: st) T r l i Q := gAast (t0 := 3) (rr := (RX9, TX9, 10)) hd (Or.inr rfl) hk rfl rfl hb (by decide) rfl hin hA kk
theorem gS_new {A : Nat → Prop} {H0 H H1 : Heap} {locs : List Loc} (hS : va_S A H0 H locs) (z : H1.size = H.size + 1) (oq : ∀ q : Nat, q < H.size → H1[q]? = H[q]?) : va_S A H0 H1 locs := ⟨Nat.le_trans hS.1 (by omega), fun x h1 h2 => (oq x (Nat.lt_of_lt_of_le h1 hS.1)).trans (hS.2.1 x h1 h2), hS.2.2⟩
abbrev gT1 (T : gTy) (kn : Nat × Nat) : gTy := (T.1 + 1, va_up T.2 T.1 kn)
abbrev gR1 (T : gTy) (r : gR) : gR := va_up r T.1 (fun _ => none)
abbrev gL1 (T : gTy) (l : gLg) : gLg := va_up l T.1 (fun _ => 0)
abbrev gI1 (T : gTy) (i : gI) : gI := va_up i T.1 (fun _ => 0)
theorem G_new {idx ci nn : Nat} {C : String} {Tb : u_T} {ty0 : Nat → FieldType} (hd : decode M.2.1 pc = .ok (.new idx, 3)) (hcl : vwCl[ci]? = some (C, Tb, nn)) (hci : ci < 13) (hN : (gT ci).length = nn) (hin : ∀ w ∈ u_ws C Tb nn, w ∈ gw) (hty : ∀ k, k < nn → parseFieldDescriptor (Tb k).2.2.1 = some (ty0 k)) (hfs : ∀ j, j < nn → defaultValue (ty0 j) = vp_V (gF (gT ci) 0 (fun _ => none) (fun _ => 0) (fun _ => 0)) j) (h1 : Cond.classLink M.1.cls idx C ∈ gw) (h2 : Cond.instantiable C nn ∈ gw) (h3 : Cond.initialized C ∈ gw) (hc : k + 1 ≤ M.2.2.2.2.cells) (hs : n + nn ≤ M.2.2.2.2.slots) (kk : G Γ M (k + 1) (n + nn) (pc + 3) L (.ref T.1 :: st) (gT1 T (ci, 0)) (gR1 T r) (gL1 T l) (gI1 T i) Q) : G Γ M k n pc L st T r l i Q := by
  intro p e s m args below meth c H locs ls X F hls hP hS hE
  have hts := F.2.2.2.2.1
  have hK := F.2.2.2.2.2.1.2.1
  have hKn := hK.1 ci _ hcl
  refine W.newcK F.1 F.2.1 F.2.2.2.1 (hts _ h1) (hts _ h2) (hts _ h3) rfl hd hc hs hKn.2.1 hP.1 fun H1 kC hkC e1 z1 o1 => ?_
  have z2 : H1.size = H.size + 1 := by rw [z1, hP.1]
  have o2 : ∀ q : Nat, q < H.size → H1[q]? = H[q]? := fun q hq => o1 q (by rw [← hP.1]; exact hq)
  refine kk p e s m args below meth c H1 locs ls X F hls (hP.new z2 o2 (fun e he => ?_)) (gS_new hS z2 o2) hE
  unfold gE at he
  rw [if_pos hci] at he
  cases he
  rw [hP.1]
  exact ⟨_, hcl, (u_born ty0 hts hin hKn hkC e1 hty).to hfs⟩
theorem gNewP {x : Int32} {nn z : Nat} {at0 : ArrayType} {cA0 : ClassId} {t0 : Nat} (hd : decode M.2.1 pc = .ok (.newarray at0, 2)) (hz : (z = 13 ∧ cA0 = gcI Γ ∧ newarray.typeOf at0 = .int) ∨ (z = 14 ∧ cA0 = gcZ Γ ∧ newarray.typeOf at0 = .boolean)) (ht : (gtys Γ)[t0]? = some (cA0, newarray.typeOf at0)) (hw : Cond.arrayClass (newarray.typeOf at0) ∈ gw) (hx : ¬ x < 0) (hN : x.toNatClampNeg = nn) (hb : nn * componentBytes (newarray.typeOf at0) ≤ 536870912) (hc : k + 1 ≤ M.2.2.2.2.cells) (hs : n + nn ≤ M.2.2.2.2.slots) (kk : G Γ M (k + 1) (n + nn) (pc + 2) L (.ref T.1 :: st) (gT1 T (z, nn)) (gR1 T r) (gL1 T l) (gI1 T i) Q) : G Γ M k n pc L (.int x :: st) T r l i Q := by
  intro p e s m args below meth c H locs ls X F hls hP hS hE
  have hK := F.2.2.2.2.2.1.2.1
  refine va_newaK F.1 F.2.1 (F.2.2.2.2.1 _ hw) rfl hd rfl hx hN hb hc hs hP.1 fun H1 cA e1 z1 o1 hAr hNm => ?_
  have z2 : H1.size = H.size + 1 := by rw [z1, hP.1]
  have o2 : ∀ q : Nat, q < H.size → H1[q]? = H[q]? := fun q hq => o1 q (by rw [← hP.1]; exact hq)
  have hcA : cA = cA0 := by
    have h9 := (hK.2 t0 _ ht).2
    rcases hz with ⟨-, -, ez⟩ | ⟨-, -, ez⟩ <;> (rw [ez] at h9 hNm; exact Option.some.inj (hNm.symm.trans h9))
  subst hcA
  refine kk p e s m args below meth c H1 locs ls X F hls (hP.new z2 o2 (fun e he => ?_)) (gS_new hS z2 o2) hE
  rw [hP.1]
  rcases hz with ⟨rfl, ec, ez⟩ | ⟨rfl, ec, ez⟩ <;> (unfold gE at he; cases he; show H1[T.1]? = some (vp_cell _ _); rw [e1, ez, ec]; rfl)
theorem G_newI {x : Int32} {nn : Nat} (hd : decode M.2.1 pc = .ok (.newarray .int, 2)) (hw : Cond.arrayClass .int ∈ gw) (hx : ¬ x < 0) (hN : x.toNatClampNeg = nn) (hb : nn * 4 ≤ 536870912) (hc : k + 1 ≤ M.2.2.2.2.cells) (hs : n + nn ≤ M.2.2.2.2.slots) (kk : G Γ M (k + 1) (n + nn) (pc + 2) L (.ref T.1 :: st) (gT1 T (13, nn)) (gR1 T r) (gL1 T l) (gI1 T i) Q) : G Γ M k n pc L (.int x :: st) T r l i Q := gNewP (t0 := 0) hd (Or.inl ⟨rfl, rfl, rfl⟩) rfl hw hx hN hb hc hs kk
theorem G_newZ {x : Int32} {nn : Nat} (hd : decode M.2.1 pc = .ok (.newarray .boolean, 2)) (hw : Cond.arrayClass .boolean ∈ gw) (hx : ¬ x < 0) (hN : x.toNatClampNeg = nn) (hb : nn * 1 ≤ 536870912) (hc : k + 1 ≤ M.2.2.2.2.cells) (hs : n + nn ≤ M.2.2.2.2.slots) (kk : G Γ M (k + 1) (n + nn) (pc + 2) L (.ref T.1 :: st) (gT1 T (14, nn)) (gR1 T r) (gL1 T l) (gI1 T i) Q) : G Γ M k n pc L (.int x :: st) T r l i Q := gNewP (t0 := 1) hd (Or.inr ⟨rfl, rfl, rfl⟩) rfl hw hx hN hb hc hs kk
theorem gNewQ {x : Int32} {nn z idx : Nat} {C : String} {cA0 : ClassId} {t0 : Nat} (hd : decode M.2.1 pc = .ok (.anewarray idx, 3)) (hz : (z = 15 ∧ cA0 = gcS Γ) ∨ (z = 16 ∧ cA0 = gcW Γ)) (ht : (gtys Γ)[t0]? = some (cA0, .object C)) (hcl : Cond.classLink M.1.cls idx C ∈ gw) (hov : ∀ U : State, gTT Γ U → va_AO C U) (hx : ¬ x < 0) (hN : x.toNatClampNeg = nn) (hb : nn * 4 ≤ 536870912) (hc : k + 1 ≤ M.2.2.2.2.cells) (hs : n + nn ≤ M.2.2.2.2.slots) (kk : G Γ M (k + 1) (n + nn) (pc + 3) L (.ref T.1 :: st) (gT1 T (z, nn)) (gR1 T r) (gL1 T l) (gI1 T i) Q) : G Γ M k n pc L (.int x :: st) T r l i Q := by
  intro p e s m args below meth c H locs ls X F hls hP hS hE
  have hK := F.2.2.2.2.2.1.2.1
  subst hN
  refine W.anew F.1 F.2.1 F.2.2.2.1 (F.2.2.2.2.1 _ hcl) (va_AO.use (hov s F.2.2.2.2.2.1)) rfl hd rfl hx hb hc hs fun cA kA comp f1 f2 f3 f4 => ?_
  generalize hH1 : H.push ({ cls := cA, slots := Array.replicate x.toNatClampNeg .null, vm := .none } : Cell) = H1
  have z1 : H1.size = H.size + 1 := by rw [← hH1, Array.size_push]
  have e1 : H1[H.size]? = some (arrV cA x.toNatClampNeg (fun _ => .null)) := by rw [← hH1, Array.getElem?_push_size, ← arrV_new]
  have o1 : ∀ q : Nat, q < H.size → H1[q]? = H[q]? := fun q hq => by rw [← hH1, Array.getElem?_push, if_neg (Nat.ne_of_lt hq)]
  have hcA : cA = cA0 := by
    obtain ⟨kB, comp2, k1, k2, k3, k4⟩ := (hK.2 t0 _ ht).2
    exact Option.some.inj (f1.symm.trans k4)
  subst hcA
  have hsz : H.size = T.1 := hP.1
  refine W.eq (g2 := F0 m (pc + 3) ls (.ref T.1 :: st)) (by rw [← hsz]) ?_
  refine kk p e s m args below meth c H1 locs ls X F hls (hP.new z1 o1 (fun e he => ?_)) (gS_new hS z1 o1) hE
  rcases hz with ⟨rfl, ec⟩ | ⟨rfl, ec⟩ <;> (unfold gE at he; cases he; show H1[H.size]? = some (vp_cell _ _); rw [e1, ec]; rfl)
theorem G_newS {x : Int32} {nn idx : Nat} (hd : decode M.2.1 pc = .ok (.anewarray idx, 3)) (hcl : Cond.classLink M.1.cls idx RX6 ∈ gw) (hx : ¬ x < 0) (hN : x.toNatClampNeg = nn) (hb : nn * 4 ≤ 536870912) (hc : k + 1 ≤ M.2.2.2.2.cells) (hs : n + nn ≤ M.2.2.2.2.slots) (kk : G Γ M (k + 1) (n + nn) (pc + 3) L (.ref T.1 :: st) (gT1 T (15, nn)) (gR1 T r) (gL1 T l) (gI1 T i) Q) : G Γ M k n pc L (.int x :: st) T r l i Q := gNewQ (t0 := 2) hd (Or.inl ⟨rfl, rfl⟩) rfl hcl (fun _ h => h.2.2.1) hx hN hb hc hs kk
theorem G_newW {x : Int32} {nn idx : Nat} (hd : decode M.2.1 pc = .ok (.anewarray idx, 3)) (hcl : Cond.classLink M.1.cls idx RX9 ∈ gw) (hx : ¬ x < 0) (hN : x.toNatClampNeg = nn) (hb : nn * 4 ≤ 536870912) (hc : k + 1 ≤ M.2.2.2.2.cells) (hs : n + nn ≤ M.2.2.2.2.slots) (kk : G Γ M (k + 1) (n + nn) (pc + 3) L (.ref T.1 :: st) (gT1 T (16, nn)) (gR1 T r) (gL1 T l) (gI1 T i) Q) : G Γ M k n pc L (.int x :: st) T r l i Q := gNewQ (t0 := 3) hd (Or.inr ⟨rfl, rfl⟩) rfl hcl (fun _ h => h.2.2.2) hx hN hb hc hs kk
theorem G_objInit {idx a : Nat} (hd : decode M.2.1 pc = .ok (.invokespecial idx, 3)) (h1 : Cond.methodLink M.1.cls idx objectInit ∈ gw) (h2 : Cond.instanceMethod objectInit ∈ gw) (h3 : Cond.code objectInit ⟨#[0xb1]⟩ 1 none ∈ gw) (hfr : 1 ≤ M.2.2.2.2.frames) (hlo : gCat st + 12 ≤ M.2.2.2.2.locals) (kk : G Γ M k n (pc + 3) L st T r l i Q) : G Γ M k n pc L (.ref a :: st) T r l i Q := fun p e s m args below meth c H locs ls X F hls hP hS hE => W.objInit F.1 F.2.1 F.2.2.2.1 (F.2.2.2.2.1 _ h1) (F.2.2.2.2.1 _ h2) (F.2.2.2.2.1 _ h3) rfl (by rw [F.2.2.1]; exact hls.1) rfl hd hfr (by have h9 : (List.map (fun v => v.category) st).sum + 12 ≤ M.2.2.2.2.locals := hlo; show 2 * 0 + _ + 12 ≤ _; omega) (kk p e s m args below meth c H locs ls X F hls hP hS hE)
theorem G_f2i {idx : Nat} {x : UInt32} (hd : decode M.2.1 pc = .ok (.invokestatic idx, 3)) (h1 : Cond.methodLink M.1.cls idx ⟨"java/lang/Float", "floatToRawIntBits", "(F)I"⟩ ∈ gw) (h2 : Cond.native ⟨"java/lang/Float", "floatToRawIntBits", "(F)I"⟩ ∈ gw) (h3 : Cond.static ⟨"java/lang/Float", "floatToRawIntBits", "(F)I"⟩ ∈ gw) (h4 : Cond.initialized "java/lang/Float" ∈ gw) (hfr : 1 ≤ M.2.2.2.2.frames) (hlo : gCat st + 15 ≤ M.2.2.2.2.locals) (kk : G Γ M k n (pc + 3) L (.int x.toInt32 :: st) T r l i Q) : G Γ M k n pc L (.float x :: st) T r l i Q := fun p e s m args below meth c H locs ls X F hls hP hS hE => vn_f2i F.1 F.2.1 (by rw [F.2.2.1]; exact hls.1.symm) F.2.2.2.1 (F.2.2.2.2.1 _ h1) (F.2.2.2.2.1 _ h2) (F.2.2.2.2.1 _ h3) (F.2.2.2.2.1 _ h4) hfr hlo hd (kk p e s m args below meth c H locs ls X F hls hP hS hE)
theorem G_getsL {idx : Nat} (hd : decode M.2.1 pc = .ok (.getstatic idx, 3)) (hl : Cond.fieldLink M.1.cls idx RX4 "LEAST" "[I" ∈ gw) (kk : G Γ M k n (pc + 3) L (.ref (gaL Γ) :: st) T r l i Q) : G Γ M k n pc L st T r l i Q := fun p e s m args below meth c H locs ls X F hls hP hS hE => va_gets F.1 F.2.1 F.2.2.2.2.2.2.1.1 hS F.2.2.2.1 (F.2.2.2.2.1 _ hl) (fun _ h => h) hd (kk p e s m args below meth c H locs ls X F hls hP hS hE)
theorem G_getsG {idx : Nat} (hd : decode M.2.1 pc = .ok (.getstatic idx, 3)) (hl : Cond.fieldLink M.1.cls idx RX4 "GREATEST" "[I" ∈ gw) (kk : G Γ M k n (pc + 3) L (.ref (gaG Γ) :: st) T r l i Q) : G Γ M k n pc L st T r l i Q := fun p e s m args below meth c H locs ls X F hls hP hS hE => va_gets F.1 F.2.1 F.2.2.2.2.2.2.1.2 hS F.2.2.2.1 (F.2.2.2.2.1 _ hl) (fun _ h => h) hd (kk p e s m args below meth c H locs ls X F hls hP hS hE)
theorem G_ret {v : Option Value} (hd : decode M.2.1 pc = .ok (gRi v, 1)) (hR : gRet M.2.2.2.1 v) (hk : k ≤ M.2.2.2.2.cells ∧ n ≤ M.2.2.2.2.slots) (hQ : Q v T r l i) : G Γ M k n pc L v.toList T r l i Q := fun p e s m args below meth c H locs ls X F hls hP hS hE => hE v T r l i H locs k n pc ls hQ hk.1 hk.2 hP hS hR hd
theorem G_iret {x : Int32} (hd : decode M.2.1 pc = .ok (.ireturn, 1)) (hR : gRet M.2.2.2.1 (some (.int x))) (hk : k ≤ M.2.2.2.2.cells ∧ n ≤ M.2.2.2.2.slots) (hQ : Q (some (.int x)) T r l i) : G Γ M k n pc L [.int x] T r l i Q := G_ret (v := some (.int x)) hd hR hk hQ
theorem G_lret {x : Int64} (hd : decode M.2.1 pc = .ok (.lreturn, 1)) (hR : gRet M.2.2.2.1 (some (.long x))) (hk : k ≤ M.2.2.2.2.cells ∧ n ≤ M.2.2.2.2.slots) (hQ : Q (some (.long x)) T r l i) : G Γ M k n pc L [.long x] T r l i Q := G_ret (v := some (.long x)) hd hR hk hQ
theorem G_aret {x : Nat} (hd : decode M.2.1 pc = .ok (.areturn, 1)) (hR : gRet M.2.2.2.1 (some (.ref x))) (hk : k ≤ M.2.2.2.2.cells ∧ n ≤ M.2.2.2.2.slots) (hQ : Q (some (.ref x)) T r l i) : G Γ M k n pc L [.ref x] T r l i Q := G_ret (v := some (.ref x)) hd hR hk hQ
theorem G_aretN (hd : decode M.2.1 pc = .ok (.areturn, 1)) (hR : gRet M.2.2.2.1 (some .null)) (hk : k ≤ M.2.2.2.2.cells ∧ n ≤ M.2.2.2.2.slots) (hQ : Q (some .null) T r l i) : G Γ M k n pc L [.null] T r l i Q := G_ret (v := some .null) hd hR hk hQ
theorem G_vret (hd : decode M.2.1 pc = .ok (.return_, 1)) (hR : M.2.2.2.1 = none) (hk : k ≤ M.2.2.2.2.cells ∧ n ≤ M.2.2.2.2.slots) (hQ : Q none T r l i) : G Γ M k n pc L [] T r l i Q := G_ret (v := none) hd hR hk hQ
/-- what is called comes back: the goals behind a call, by the number of arguments -/
theorem G_callV0 {idx ci b : Nat} {rest : List Value} (hd : decode M.2.1 pc = .ok (.invokevirtual idx, 3)) (hl : gLkV M.1.cls idx N 0 ci) (hR : gFits M.2.2.2.2 N.2.2.2.2 N.2.2.1) (hc : gCat rest ≤ 8) (hf : k + N.2.2.2.2.cells ≤ M.2.2.2.2.cells ∧ n + N.2.2.2.2.slots ≤ M.2.2.2.2.slots) (hb : (T.2 b).1 = ci) (h : gC Γ N [.ref b] T r l i (fun v T1 r1 l1 i1 => G Γ M (k + N.2.2.2.2.cells) (n + N.2.2.2.2.slots) (pc + 3) L (v.toList ++ rest) T1 r1 l1 i1 Q)) : G Γ M k n pc L (.ref b :: rest) T r l i Q := G_callV (As := []) hd hl rfl hR hc hf hb h
theorem G_callI0 {idx b : Nat} {rest : List Value} (hd : decode M.2.1 pc = .ok (.invokespecial idx, 3)) (hl : gLkI M.1.cls idx N 0) (hR : gFits M.2.2.2.2 N.2.2.2.2 N.2.2.1) (hc : gCat rest ≤ 8) (hf : k + N.2.2.2.2.cells ≤ M.2.2.2.2.cells ∧ n + N.2.2.2.2.slots ≤ M.2.2.2.2.slots) (h : gC Γ N [.ref b] T r l i (fun v T1 r1 l1 i1 => G Γ M (k + N.2.2.2.2.cells) (n + N.2.2.2.2.slots) (pc + 3) L (v.toList ++ rest) T1 r1 l1 i1 Q)) : G Γ M k n pc L (.ref b :: rest) T r l i Q := G_callI (As := []) hd hl rfl hR hc hf h
theorem G_callV1 {idx ci b : Nat} {v1 : Value} {rest : List Value} (hd : decode M.2.1 pc = .ok (.invokevirtual idx, 3)) (hl : gLkV M.1.cls idx N 1 ci) (hR : gFits M.2.2.2.2 N.2.2.2.2 N.2.2.1) (hc : gCat rest ≤ 8) (hf : k + N.2.2.2.2.cells ≤ M.2.2.2.2.cells ∧ n + N.2.2.2.2.slots ≤ M.2.2.2.2.slots) (hb : (T.2 b).1 = ci) (h : gC Γ N (.ref b :: [v1]) T r l i (fun v T1 r1 l1 i1 => G Γ M (k + N.2.2.2.2.cells) (n + N.2.2.2.2.slots) (pc + 3) L (v.toList ++ rest) T1 r1 l1 i1 Q)) : G Γ M k n pc L (v1 :: .ref b :: rest) T r l i Q := G_callV (As := [v1]) hd hl rfl hR hc hf hb h
theorem G_callS1 {idx : Nat} {v1 : Value} {rest : List Value} (hd : decode M.2.1 pc = .ok (.invokestatic idx, 3)) (hl : gLkS M.1.cls idx N 1) (hR : gFits M.2.2.2.2 N.2.2.2.2 N.2.2.1) (hc : gCat rest ≤ 8) (hf : k + N.2.2.2.2.cells ≤ M.2.2.2.2.cells ∧ n + N.2.2.2.2.slots ≤ M.2.2.2.2.slots) (h : gC Γ N [v1] T r l i (fun v T1 r1 l1 i1 => G Γ M (k + N.2.2.2.2.cells) (n + N.2.2.2.2.slots) (pc + 3) L (v.toList ++ rest) T1 r1 l1 i1 Q)) : G Γ M k n pc L (v1 :: rest) T r l i Q := G_callS (As := [v1]) hd hl rfl hR hc hf h
theorem G_callV2 {idx ci b : Nat} {v1 v2 : Value} {rest : List Value} (hd : decode M.2.1 pc = .ok (.invokevirtual idx, 3)) (hl : gLkV M.1.cls idx N 2 ci) (hR : gFits M.2.2.2.2 N.2.2.2.2 N.2.2.1) (hc : gCat rest ≤ 8) (hf : k + N.2.2.2.2.cells ≤ M.2.2.2.2.cells ∧ n + N.2.2.2.2.slots ≤ M.2.2.2.2.slots) (hb : (T.2 b).1 = ci) (h : gC Γ N (.ref b :: [v1, v2]) T r l i (fun v T1 r1 l1 i1 => G Γ M (k + N.2.2.2.2.cells) (n + N.2.2.2.2.slots) (pc + 3) L (v.toList ++ rest) T1 r1 l1 i1 Q)) : G Γ M k n pc L (v2 :: v1 :: .ref b :: rest) T r l i Q := G_callV (As := [v1, v2]) hd hl rfl hR hc hf hb h
theorem G_callS2 {idx : Nat} {v1 v2 : Value} {rest : List Value} (hd : decode M.2.1 pc = .ok (.invokestatic idx, 3)) (hl : gLkS M.1.cls idx N 2) (hR : gFits M.2.2.2.2 N.2.2.2.2 N.2.2.1) (hc : gCat rest ≤ 8) (hf : k + N.2.2.2.2.cells ≤ M.2.2.2.2.cells ∧ n + N.2.2.2.2.slots ≤ M.2.2.2.2.slots) (h : gC Γ N [v1, v2] T r l i (fun v T1 r1 l1 i1 => G Γ M (k + N.2.2.2.2.cells) (n + N.2.2.2.2.slots) (pc + 3) L (v.toList ++ rest) T1 r1 l1 i1 Q)) : G Γ M k n pc L (v2 :: v1 :: rest) T r l i Q := G_callS (As := [v1, v2]) hd hl rfl hR hc hf h
theorem G_callV3 {idx ci b : Nat} {v1 v2 v3 : Value} {rest : List Value} (hd : decode M.2.1 pc = .ok (.invokevirtual idx, 3)) (hl : gLkV M.1.cls idx N 3 ci) (hR : gFits M.2.2.2.2 N.2.2.2.2 N.2.2.1) (hc : gCat rest ≤ 8) (hf : k + N.2.2.2.2.cells ≤ M.2.2.2.2.cells ∧ n + N.2.2.2.2.slots ≤ M.2.2.2.2.slots) (hb : (T.2 b).1 = ci) (h : gC Γ N (.ref b :: [v1, v2, v3]) T r l i (fun v T1 r1 l1 i1 => G Γ M (k + N.2.2.2.2.cells) (n + N.2.2.2.2.slots) (pc + 3) L (v.toList ++ rest) T1 r1 l1 i1 Q)) : G Γ M k n pc L (v3 :: v2 :: v1 :: .ref b :: rest) T r l i Q := G_callV (As := [v1, v2, v3]) hd hl rfl hR hc hf hb h
theorem G_callS3 {idx : Nat} {v1 v2 v3 : Value} {rest : List Value} (hd : decode M.2.1 pc = .ok (.invokestatic idx, 3)) (hl : gLkS M.1.cls idx N 3) (hR : gFits M.2.2.2.2 N.2.2.2.2 N.2.2.1) (hc : gCat rest ≤ 8) (hf : k + N.2.2.2.2.cells ≤ M.2.2.2.2.cells ∧ n + N.2.2.2.2.slots ≤ M.2.2.2.2.slots) (h : gC Γ N [v1, v2, v3] T r l i (fun v T1 r1 l1 i1 => G Γ M (k + N.2.2.2.2.cells) (n + N.2.2.2.2.slots) (pc + 3) L (v.toList ++ rest) T1 r1 l1 i1 Q)) : G Γ M k n pc L (v3 :: v2 :: v1 :: rest) T r l i Q := G_callS (As := [v1, v2, v3]) hd hl rfl hR hc hf h
theorem G_callV4 {idx ci b : Nat} {v1 v2 v3 v4 : Value} {rest : List Value} (hd : decode M.2.1 pc = .ok (.invokevirtual idx, 3)) (hl : gLkV M.1.cls idx N 4 ci) (hR : gFits M.2.2.2.2 N.2.2.2.2 N.2.2.1) (hc : gCat rest ≤ 8) (hf : k + N.2.2.2.2.cells ≤ M.2.2.2.2.cells ∧ n + N.2.2.2.2.slots ≤ M.2.2.2.2.slots) (hb : (T.2 b).1 = ci) (h : gC Γ N (.ref b :: [v1, v2, v3, v4]) T r l i (fun v T1 r1 l1 i1 => G Γ M (k + N.2.2.2.2.cells) (n + N.2.2.2.2.slots) (pc + 3) L (v.toList ++ rest) T1 r1 l1 i1 Q)) : G Γ M k n pc L (v4 :: v3 :: v2 :: v1 :: .ref b :: rest) T r l i Q := G_callV (As := [v1, v2, v3, v4]) hd hl rfl hR hc hf hb h
theorem G_callS4 {idx : Nat} {v1 v2 v3 v4 : Value} {rest : List Value} (hd : decode M.2.1 pc = .ok (.invokestatic idx, 3)) (hl : gLkS M.1.cls idx N 4) (hR : gFits M.2.2.2.2 N.2.2.2.2 N.2.2.1) (hc : gCat rest ≤ 8) (hf : k + N.2.2.2.2.cells ≤ M.2.2.2.2.cells ∧ n + N.2.2.2.2.slots ≤ M.2.2.2.2.slots) (h : gC Γ N [v1, v2, v3, v4] T r l i (fun v T1 r1 l1 i1 => G Γ M (k + N.2.2.2.2.cells) (n + N.2.2.2.2.slots) (pc + 3) L (v.toList ++ rest) T1 r1 l1 i1 Q)) : G Γ M k n pc L (v4 :: v3 :: v2 :: v1 :: rest) T r l i Q := G_callS (As := [v1, v2, v3, v4]) hd hl rfl hR hc hf h
theorem G_callV5 {idx ci b : Nat} {v1 v2 v3 v4 v5 : Value} {rest : List Value} (hd : decode M.2.1 pc = .ok (.invokevirtual idx, 3)) (hl : gLkV M.1.cls idx N 5 ci) (hR : gFits M.2.2.2.2 N.2.2.2.2 N.2.2.1) (hc : gCat rest ≤ 8) (hf : k + N.2.2.2.2.cells ≤ M.2.2.2.2.cells ∧ n + N.2.2.2.2.slots ≤ M.2.2.2.2.slots) (hb : (T.2 b).1 = ci) (h : gC Γ N (.ref b :: [v1, v2, v3, v4, v5]) T r l i (fun v T1 r1 l1 i1 => G Γ M (k + N.2.2.2.2.cells) (n + N.2.2.2.2.slots) (pc + 3) L (v.toList ++ rest) T1 r1 l1 i1 Q)) : G Γ M k n pc L (v5 :: v4 :: v3 :: v2 :: v1 :: .ref b :: rest) T r l i Q := G_callV (As := [v1, v2, v3, v4, v5]) hd hl rfl hR hc hf hb h
theorem G_callS5 {idx : Nat} {v1 v2 v3 v4 v5 : Value} {rest : List Value} (hd : decode M.2.1 pc = .ok (.invokestatic idx, 3)) (hl : gLkS M.1.cls idx N 5) (hR : gFits M.2.2.2.2 N.2.2.2.2 N.2.2.1) (hc : gCat rest ≤ 8) (hf : k + N.2.2.2.2.cells ≤ M.2.2.2.2.cells ∧ n + N.2.2.2.2.slots ≤ M.2.2.2.2.slots) (h : gC Γ N [v1, v2, v3, v4, v5] T r l i (fun v T1 r1 l1 i1 => G Γ M (k + N.2.2.2.2.cells) (n + N.2.2.2.2.slots) (pc + 3) L (v.toList ++ rest) T1 r1 l1 i1 Q)) : G Γ M k n pc L (v5 :: v4 :: v3 :: v2 :: v1 :: rest) T r l i Q := G_callS (As := [v1, v2, v3, v4, v5]) hd hl rfl hR hc hf h
theorem G_callV6 {idx ci b : Nat} {v1 v2 v3 v4 v5 v6 : Value} {rest : List Value} (hd : decode M.2.1 pc = .ok (.invokevirtual idx, 3)) (hl : gLkV M.1.cls idx N 6 ci) (hR : gFits M.2.2.2.2 N.2.2.2.2 N.2.2.1) (hc : gCat rest ≤ 8) (hf : k + N.2.2.2.2.cells ≤ M.2.2.2.2.cells ∧ n + N.2.2.2.2.slots ≤ M.2.2.2.2.slots) (hb : (T.2 b).1 = ci) (h : gC Γ N (.ref b :: [v1, v2, v3, v4, v5, v6]) T r l i (fun v T1 r1 l1 i1 => G Γ M (k + N.2.2.2.2.cells) (n + N.2.2.2.2.slots) (pc + 3) L (v.toList ++ rest) T1 r1 l1 i1 Q)) : G Γ M k n pc L (v6 :: v5 :: v4 :: v3 :: v2 :: v1 :: .ref b :: rest) T r l i Q := G_callV (As := [v1, v2, v3, v4, v5, v6]) hd hl rfl hR hc hf hb h
theorem G_callS6 {idx : Nat} {v1 v2 v3 v4 v5 v6 : Value} {rest : List Value} (hd : decode M.2.1 pc = .ok (.invokestatic idx, 3)) (hl : gLkS M.1.cls idx N 6) (hR : gFits M.2.2.2.2 N.2.2.2.2 N.2.2.1) (hc : gCat rest ≤ 8) (hf : k + N.2.2.2.2.cells ≤ M.2.2.2.2.cells ∧ n + N.2.2.2.2.slots ≤ M.2.2.2.2.slots) (h : gC Γ N [v1, v2, v3, v4, v5, v6] T r l i (fun v T1 r1 l1 i1 => G Γ M (k + N.2.2.2.2.cells) (n + N.2.2.2.2.slots) (pc + 3) L (v.toList ++ rest) T1 r1 l1 i1 Q)) : G Γ M k n pc L (v6 :: v5 :: v4 :: v3 :: v2 :: v1 :: rest) T r l i Q := G_callS (As := [v1, v2, v3, v4, v5, v6]) hd hl rfl hR hc hf h
end GH
end
section
theorem gw_1 {w : Cond} (q : Nat) (h : tables_1_1[q]? = some w) (hg : goodWord w = true) : w ∈ gw := List.mem_filter.mpr ⟨List.mem_append_right _ (show w ∈ tables_1 from (List.mem_append_left _ (List.mem_of_getElem? h))), hg⟩
theorem gnw_1 {w : Cond} (q : Nat) (h : tables_1_1[q]? = some w) (hg : gnest w = true) : w ∈ gnw := List.mem_filter.mpr ⟨(show w ∈ tables_1 from (List.mem_append_left _ (List.mem_of_getElem? h))), hg⟩
theorem gw_2 {w : Cond} (q : Nat) (h : tables_1_2[q]? = some w) (hg : goodWord w = true) : w ∈ gw := List.mem_filter.mpr ⟨List.mem_append_right _ (show w ∈ tables_1 from (List.mem_append_right _ (List.mem_append_left _ (List.mem_of_getElem? h)))), hg⟩
theorem gnw_2 {w : Cond} (q : Nat) (h : tables_1_2[q]? = some w) (hg : gnest w = true) : w ∈ gnw := List.mem_filter.mpr ⟨(show w ∈ tables_1 from (List.mem_append_right _ (List.mem_append_left _ (List.mem_of_getElem? h)))), hg⟩
theorem gw_3 {w : Cond} (q : Nat) (h : tables_1_3[q]? = some w) (hg : goodWord w = true) : w ∈ gw := List.mem_filter.mpr ⟨List.mem_append_right _ (show w ∈ tables_1 from (List.mem_append_right _ (List.mem_append_right _ (List.mem_append_left _ (List.mem_of_getElem? h))))), hg⟩
theorem gnw_3 {w : Cond} (q : Nat) (h : tables_1_3[q]? = some w) (hg : gnest w = true) : w ∈ gnw := List.mem_filter.mpr ⟨(show w ∈ tables_1 from (List.mem_append_right _ (List.mem_append_right _ (List.mem_append_left _ (List.mem_of_getElem? h))))), hg⟩
theorem gw_4 {w : Cond} (q : Nat) (h : tables_1_4[q]? = some w) (hg : goodWord w = true) : w ∈ gw := List.mem_filter.mpr ⟨List.mem_append_right _ (show w ∈ tables_1 from (List.mem_append_right _ (List.mem_append_right _ (List.mem_append_right _ (List.mem_append_left _ (List.mem_of_getElem? h)))))), hg⟩
theorem gnw_4 {w : Cond} (q : Nat) (h : tables_1_4[q]? = some w) (hg : gnest w = true) : w ∈ gnw := List.mem_filter.mpr ⟨(show w ∈ tables_1 from (List.mem_append_right _ (List.mem_append_right _ (List.mem_append_right _ (List.mem_append_left _ (List.mem_of_getElem? h)))))), hg⟩
theorem gw_5 {w : Cond} (q : Nat) (h : tables_1_5[q]? = some w) (hg : goodWord w = true) : w ∈ gw := List.mem_filter.mpr ⟨List.mem_append_right _ (show w ∈ tables_1 from (List.mem_append_right _ (List.mem_append_right _ (List.mem_append_right _ (List.mem_append_right _ (List.mem_of_getElem? h)))))), hg⟩
theorem gnw_5 {w : Cond} (q : Nat) (h : tables_1_5[q]? = some w) (hg : gnest w = true) : w ∈ gnw := List.mem_filter.mpr ⟨(show w ∈ tables_1 from (List.mem_append_right _ (List.mem_append_right _ (List.mem_append_right _ (List.mem_append_right _ (List.mem_of_getElem? h)))))), hg⟩
abbrev MX0_init : gM := (yX0_init, cX0_init, 1, none, { frames := 2, cells := 1, slots := 3, locals := 40 })
abbrev MX0_correct : gM := (yX0_correct, cX0_correct, 18, some .boolean, { frames := 3, cells := 0, slots := 0, locals := 76 })
abbrev MX1_init : gM := (yX1_init, cX1_init, 2, none, { frames := 4, cells := 145, slots := 3596, locals := 81 })
abbrev MX1_keep : gM := (yX1_keep, cX1_keep, 2, none, { frames := 4, cells := 0, slots := 0, locals := 89 })
abbrev MX1_restore : gM := (yX1_restore, cX1_restore, 2, none, { frames := 4, cells := 0, slots := 0, locals := 89 })
abbrev MX1_latest : gM := (yX1_latest, cX1_latest, 1, some .int, { frames := 0, cells := 0, slots := 0, locals := 0 })
abbrev MX2_init : gM := (yX2_init, cX2_init, 1, none, { frames := 3, cells := 3, slots := 10, locals := 60 })
abbrev MX2_advance : gM := (yX2_advance, cX2_advance, 5, some .boolean, { frames := 5, cells := 0, slots := 0, locals := 143 })
abbrev MX2_arrives : gM := (yX2_arrives, cX2_arrives, 11, some .boolean, { frames := 4, cells := 0, slots := 0, locals := 113 })
abbrev MX2_land : gM := (yX2_land, cX2_land, 9, none, { frames := 2, cells := 0, slots := 0, locals := 41 })
abbrev MX2_leavesCrossing : gM := (yX2_leavesCrossing, cX2_leavesCrossing, 17, some .boolean, { frames := 4, cells := 0, slots := 0, locals := 113 })
abbrev MX2_signBeside : gM := (yX2_signBeside, cX2_signBeside, 8, some .int, { frames := 2, cells := 0, slots := 0, locals := 42 })
abbrev MX3_init : gM := (yX3_init, cX3_init, 1, none, { frames := 2, cells := 4, slots := 22, locals := 40 })
abbrev MX3_scan : gM := (yX3_scan, cX3_scan, 3, none, { frames := 5, cells := 0, slots := 0, locals := 105 })
abbrev MX3_take : gM := (yX3_take, cX3_take, 2, some .int, { frames := 4, cells := 0, slots := 0, locals := 84 })
abbrev MX3_takeSign : gM := (yX3_takeSign, cX3_takeSign, 2, some .int, { frames := 3, cells := 0, slots := 0, locals := 63 })
abbrev MX3_takeDigit : gM := (yX3_takeDigit, cX3_takeDigit, 2, some .int, { frames := 0, cells := 0, slots := 0, locals := 0 })
abbrev MX3_takeLetter : gM := (yX3_takeLetter, cX3_takeLetter, 2, some .int, { frames := 0, cells := 0, slots := 0, locals := 0 })
abbrev MX3_openTerm : gM := (yX3_openTerm, cX3_openTerm, 2, none, { frames := 0, cells := 0, slots := 0, locals := 0 })
abbrev MX3_closeTerm : gM := (yX3_closeTerm, cX3_closeTerm, 1, none, { frames := 2, cells := 0, slots := 0, locals := 43 })
abbrev MX4_init : gM := (yX4_init, cX4_init, 1, none, { frames := 1, cells := 1, slots := 3, locals := 20 })
abbrev MX4_allows : gM := (yX4_allows, cX4_allows, 2, some .boolean, { frames := 1, cells := 0, slots := 0, locals := 25 })
abbrev MX4_at : gM := (yX4_at, cX4_at, 2, some .int, { frames := 0, cells := 0, slots := 0, locals := 0 })
abbrev MX4_replace : gM := (yX4_replace, cX4_replace, 4, some .int, { frames := 2, cells := 0, slots := 0, locals := 46 })
abbrev MX4_copyFrom : gM := (yX4_copyFrom, cX4_copyFrom, 3, none, { frames := 0, cells := 0, slots := 0, locals := 0 })
abbrev MX5_init : gM := (yX5_init, cX5_init, 1, none, { frames := 1, cells := 0, slots := 0, locals := 20 })
abbrev MX5_look : gM := (yX5_look, cX5_look, 11, none, { frames := 2, cells := 0, slots := 0, locals := 46 })
abbrev MX5_steepness : gM := (yX5_steepness, cX5_steepness, 1, some .long, { frames := 0, cells := 0, slots := 0, locals := 0 })
abbrev MX6_init : gM := (yX6_init, cX6_init, 1, none, { frames := 3, cells := 35, slots := 895, locals := 61 })
abbrev MX6_copyFrom : gM := (yX6_copyFrom, cX6_copyFrom, 2, none, { frames := 3, cells := 0, slots := 0, locals := 68 })
abbrev MX7_init : gM := (yX7_init, cX7_init, 1, none, { frames := 1, cells := 3, slots := 18, locals := 20 })
abbrev MX7_has : gM := (yX7_has, cX7_has, 2, some .boolean, { frames := 0, cells := 0, slots := 0, locals := 0 })
abbrev MX7_isFull : gM := (yX7_isFull, cX7_isFull, 1, some .boolean, { frames := 0, cells := 0, slots := 0, locals := 0 })
abbrev MX7_add : gM := (yX7_add, cX7_add, 4, none, { frames := 1, cells := 0, slots := 0, locals := 20 })
abbrev MX7_remove : gM := (yX7_remove, cX7_remove, 4, some .int, { frames := 1, cells := 0, slots := 0, locals := 21 })
abbrev MX7_clear : gM := (yX7_clear, cX7_clear, 1, none, { frames := 0, cells := 0, slots := 0, locals := 0 })
abbrev MX7_coefficient : gM := (yX7_coefficient, cX7_coefficient, 7, some .long, { frames := 2, cells := 0, slots := 0, locals := 46 })
abbrev MX7_scale : gM := (yX7_scale, cX7_scale, 2, some .long, { frames := 1, cells := 0, slots := 0, locals := 25 })
abbrev MX7_copyFrom : gM := (yX7_copyFrom, cX7_copyFrom, 3, none, { frames := 0, cells := 0, slots := 0, locals := 0 })
abbrev MX8_init : gM := (yX8_init, cX8_init, 1, none, { frames := 1, cells := 1, slots := 60, locals := 20 })
abbrev MX8_isFull : gM := (yX8_isFull, cX8_isFull, 1, some .boolean, { frames := 0, cells := 0, slots := 0, locals := 0 })
abbrev MX8_append : gM := (yX8_append, cX8_append, 2, none, { frames := 1, cells := 0, slots := 0, locals := 20 })
abbrev MX9_init : gM := (yX9_init, cX9_init, 1, none, { frames := 1, cells := 4, slots := 160, locals := 20 })
abbrev MX9_start : gM := (yX9_start, cX9_start, 5, none, { frames := 0, cells := 0, slots := 0, locals := 0 })
abbrev MX9_addPlace : gM := (yX9_addPlace, cX9_addPlace, 3, none, { frames := 0, cells := 0, slots := 0, locals := 0 })
abbrev MX9_has : gM := (yX9_has, cX9_has, 2, some .boolean, { frames := 0, cells := 0, slots := 0, locals := 0 })
abbrev MX9_condition : gM := (yX9_condition, cX9_condition, 1, some .int, { frames := 0, cells := 0, slots := 0, locals := 0 })
abbrev MX9_lastX : gM := (yX9_lastX, cX9_lastX, 1, some .int, { frames := 1, cells := 0, slots := 0, locals := 21 })
abbrev MX9_lastY : gM := (yX9_lastY, cX9_lastY, 1, some .int, { frames := 1, cells := 0, slots := 0, locals := 21 })
abbrev MX9_changeOfX : gM := (yX9_changeOfX, cX9_changeOfX, 2, some .int, { frames := 1, cells := 0, slots := 0, locals := 21 })
abbrev MX9_changeOfY : gM := (yX9_changeOfY, cX9_changeOfY, 2, some .int, { frames := 1, cells := 0, slots := 0, locals := 21 })
abbrev MX9_placesOfKind : gM := (yX9_placesOfKind, cX9_placesOfKind, 4, some .int, { frames := 0, cells := 0, slots := 0, locals := 0 })
abbrev MX9_lengthInParts : gM := (yX9_lengthInParts, cX9_lengthInParts, 7, some .int, { frames := 2, cells := 0, slots := 0, locals := 42 })
abbrev MX9_nearestTo : gM := (yX9_nearestTo, cX9_nearestTo, 7, some .int, { frames := 2, cells := 0, slots := 0, locals := 50 })
abbrev MX9_squaresTo : gM := (yX9_squaresTo, cX9_squaresTo, 10, some .long, { frames := 1, cells := 0, slots := 0, locals := 21 })
abbrev MX9_copyFrom : gM := (yX9_copyFrom, cX9_copyFrom, 3, none, { frames := 1, cells := 0, slots := 0, locals := 24 })
abbrev MX10_init : gM := (yX10_init, cX10_init, 2, none, { frames := 2, cells := 28, slots := 865, locals := 40 })
abbrev MX10_at : gM := (yX10_at, cX10_at, 2, some (.object "FoldWalks$Walk"), { frames := 0, cells := 0, slots := 0, locals := 0 })
abbrev MX10_isFull : gM := (yX10_isFull, cX10_isFull, 1, some .boolean, { frames := 0, cells := 0, slots := 0, locals := 0 })
abbrev MX10_addOne : gM := (yX10_addOne, cX10_addOne, 1, some (.object "FoldWalks$Walk"), { frames := 1, cells := 0, slots := 0, locals := 20 })
abbrev MX10_clear : gM := (yX10_clear, cX10_clear, 1, none, { frames := 0, cells := 0, slots := 0, locals := 0 })
abbrev MX10_markFamily : gM := (yX10_markFamily, cX10_markFamily, 5, some .int, { frames := 0, cells := 0, slots := 0, locals := 0 })
abbrev MX10_removeFamily : gM := (yX10_removeFamily, cX10_removeFamily, 5, none, { frames := 1, cells := 0, slots := 0, locals := 24 })
abbrev MX10_places : gM := (yX10_places, cX10_places, 3, some .int, { frames := 0, cells := 0, slots := 0, locals := 0 })
abbrev MX10_placesOfKind : gM := (yX10_placesOfKind, cX10_placesOfKind, 4, some .int, { frames := 1, cells := 0, slots := 0, locals := 23 })
abbrev MX10_copyFrom : gM := (yX10_copyFrom, cX10_copyFrom, 3, none, { frames := 2, cells := 0, slots := 0, locals := 46 })
abbrev MX11_init : gM := (yX11_init, cX11_init, 1, none, { frames := 5, cells := 193, slots := 4601, locals := 102 })
abbrev MX11_term : gM := (yX11_term, cX11_term, 4, some .int, { frames := 5, cells := 0, slots := 0, locals := 110 })
abbrev MX11_dropTerm : gM := (yX11_dropTerm, cX11_dropTerm, 2, some .int, { frames := 5, cells := 0, slots := 0, locals := 110 })
abbrev MX11_termOf : gM := (yX11_termOf, cX11_termOf, 3, some .int, { frames := 1, cells := 0, slots := 0, locals := 25 })
abbrev MX11_value : gM := (yX11_value, cX11_value, 5, some .long, { frames := 3, cells := 0, slots := 0, locals := 76 })
abbrev MX11_corrected : gM := (yX11_corrected, cX11_corrected, 5, some .int, { frames := 4, cells := 0, slots := 0, locals := 113 })
abbrev MX11_begin : gM := (yX11_begin, cX11_begin, 4, some .int, { frames := 6, cells := 0, slots := 0, locals := 135 })
abbrev MX11_branch : gM := (yX11_branch, cX11_branch, 5, some .int, { frames := 6, cells := 0, slots := 0, locals := 149 })
abbrev MX11_startWalk : gM := (yX11_startWalk, cX11_startWalk, 6, some .int, { frames := 5, cells := 0, slots := 0, locals := 110 })
abbrev MX11_step : gM := (yX11_step, cX11_step, 5, some .int, { frames := 6, cells := 0, slots := 0, locals := 167 })
abbrev MX11_drop : gM := (yX11_drop, cX11_drop, 2, some .int, { frames := 5, cells := 0, slots := 0, locals := 110 })
abbrev MX11_set : gM := (yX11_set, cX11_set, 3, some .int, { frames := 5, cells := 0, slots := 0, locals := 110 })
abbrev MX11_walkOf : gM := (yX11_walkOf, cX11_walkOf, 4, some .int, { frames := 1, cells := 0, slots := 0, locals := 25 })
abbrev MX11_placeOf : gM := (yX11_placeOf, cX11_placeOf, 5, some .int, { frames := 1, cells := 0, slots := 0, locals := 25 })
abbrev MX11_count : gM := (yX11_count, cX11_count, 2, some .int, { frames := 2, cells := 0, slots := 0, locals := 46 })
abbrev MX11_meets : gM := (yX11_meets, cX11_meets, 17, some .int, { frames := 3, cells := 0, slots := 0, locals := 72 })
abbrev MX11_lengthBits : gM := (yX11_lengthBits, cX11_lengthBits, 3, some .int, { frames := 3, cells := 0, slots := 0, locals := 68 })
abbrev MX11_nearest : gM := (yX11_nearest, cX11_nearest, 5, some .int, { frames := 3, cells := 0, slots := 0, locals := 76 })
abbrev MX11_undo : gM := (yX11_undo, cX11_undo, 1, some .int, { frames := 5, cells := 0, slots := 0, locals := 110 })
abbrev MX11_type : gM := (yX11_type, cX11_type, 2, some .int, { frames := 2, cells := 0, slots := 0, locals := 41 })
abbrev MX11_clearText : gM := (yX11_clearText, cX11_clearText, 2, some .int, { frames := 0, cells := 0, slots := 0, locals := 0 })
abbrev MX11_fault : gM := (yX11_fault, cX11_fault, 2, some .int, { frames := 6, cells := 0, slots := 0, locals := 127 })
abbrev MX11_read : gM := (yX11_read, cX11_read, 1, some .int, { frames := 6, cells := 0, slots := 0, locals := 127 })
abbrev MX11_isWithin : gM := (yX11_isWithin, cX11_isWithin, 6, some .boolean, { frames := 0, cells := 0, slots := 0, locals := 0 })
abbrev MX11_isPlace : gM := (yX11_isPlace, cX11_isPlace, 4, some .boolean, { frames := 1, cells := 0, slots := 0, locals := 25 })
abbrev MX11_isSign : gM := (yX11_isSign, cX11_isSign, 1, some .boolean, { frames := 0, cells := 0, slots := 0, locals := 0 })
abbrev MX11_power : gM := (yX11_power, cX11_power, 6, some .long, { frames := 0, cells := 0, slots := 0, locals := 0 })
abbrev MX11_rootOf : gM := (yX11_rootOf, cX11_rootOf, 8, some .long, { frames := 0, cells := 0, slots := 0, locals := 0 })
abbrev MX11_bitsOfParts : gM := (yX11_bitsOfParts, cX11_bitsOfParts, 3, some .int, { frames := 0, cells := 0, slots := 0, locals := 0 })
abbrev MX12_init : gM := (yX12_init, cX12_init, 1, none, { frames := 1, cells := 5, slots := 5183, locals := 20 })
abbrev MX12_in : gM := (yX12_in, cX12_in, 3, some .boolean, { frames := 0, cells := 0, slots := 0, locals := 0 })
abbrev MX12_isIn : gM := (yX12_isIn, cX12_isIn, 1, some .boolean, { frames := 1, cells := 0, slots := 0, locals := 22 })
abbrev MX12_begins : gM := (yX12_begins, cX12_begins, 2, none, { frames := 0, cells := 0, slots := 0, locals := 0 })
abbrev MX12_returns : gM := (yX12_returns, cX12_returns, 2, none, { frames := 0, cells := 0, slots := 0, locals := 0 })
abbrev MX12_acted : gM := (yX12_acted, cX12_acted, 3, some .int, { frames := 1, cells := 0, slots := 0, locals := 21 })
abbrev MX12_termPart : gM := (yX12_termPart, cX12_termPart, 3, some .int, { frames := 0, cells := 0, slots := 0, locals := 0 })
abbrev MX12_power : gM := (yX12_power, cX12_power, 6, some .long, { frames := 0, cells := 0, slots := 0, locals := 0 })
abbrev MX12_given : gM := (yX12_given, cX12_given, 9, some .long, { frames := 1, cells := 0, slots := 0, locals := 25 })
abbrev MX12_sum : gM := (yX12_sum, cX12_sum, 7, some .long, { frames := 2, cells := 0, slots := 0, locals := 53 })
abbrev MX12_root : gM := (yX12_root, cX12_root, 6, some .long, { frames := 0, cells := 0, slots := 0, locals := 0 })
abbrev MX12_goesRound : gM := (yX12_goesRound, cX12_goesRound, 14, some .boolean, { frames := 3, cells := 0, slots := 0, locals := 79 })
abbrev MX12_corrects : gM := (yX12_corrects, cX12_corrects, 5, some .boolean, { frames := 4, cells := 0, slots := 0, locals := 112 })
abbrev MX12_walkAt : gM := (yX12_walkAt, cX12_walkAt, 1, some .int, { frames := 0, cells := 0, slots := 0, locals := 0 })
abbrev MX12_walkPart : gM := (yX12_walkPart, cX12_walkPart, 3, some .int, { frames := 1, cells := 0, slots := 0, locals := 20 })
abbrev MX12_puts : gM := (yX12_puts, cX12_puts, 4, none, { frames := 1, cells := 0, slots := 0, locals := 20 })
abbrev MX12_places : gM := (yX12_places, cX12_places, 2, some .int, { frames := 1, cells := 0, slots := 0, locals := 20 })
abbrev MX12_placePart : gM := (yX12_placePart, cX12_placePart, 4, some .int, { frames := 1, cells := 0, slots := 0, locals := 20 })
abbrev MX12_isWalk : gM := (yX12_isWalk, cX12_isWalk, 2, some .boolean, { frames := 1, cells := 0, slots := 0, locals := 22 })
abbrev MX12_joins : gM := (yX12_joins, cX12_joins, 4, none, { frames := 2, cells := 0, slots := 0, locals := 41 })
abbrev MX12_opens : gM := (yX12_opens, cX12_opens, 5, some .int, { frames := 3, cells := 0, slots := 0, locals := 64 })
abbrev MX12_tries : gM := (yX12_tries, cX12_tries, 14, some .boolean, { frames := 5, cells := 0, slots := 0, locals := 136 })
abbrev MX12_arrives : gM := (yX12_arrives, cX12_arrives, 14, none, { frames := 3, cells := 0, slots := 0, locals := 79 })
abbrev MX12_goes : gM := (yX12_goes, cX12_goes, 5, some .boolean, { frames := 6, cells := 0, slots := 0, locals := 169 })
abbrev MX12_stateOf : gM := (yX12_stateOf, cX12_stateOf, 2, some .int, { frames := 2, cells := 0, slots := 0, locals := 42 })
abbrev MX12_walks : gM := (yX12_walks, cX12_walks, 4, some .int, { frames := 7, cells := 0, slots := 0, locals := 193 })
abbrev MX12_branches : gM := (yX12_branches, cX12_branches, 16, some .int, { frames := 5, cells := 0, slots := 0, locals := 136 })
abbrev MX12_isFrom : gM := (yX12_isFrom, cX12_isFrom, 4, some .boolean, { frames := 2, cells := 0, slots := 0, locals := 42 })
abbrev MX12_drops : gM := (yX12_drops, cX12_drops, 6, some .int, { frames := 3, cells := 0, slots := 0, locals := 65 })
abbrev MX12_adds : gM := (yX12_adds, cX12_adds, 5, some .int, { frames := 0, cells := 0, slots := 0, locals := 0 })
abbrev MX12_term : gM := (yX12_term, cX12_term, 5, some .int, { frames := 2, cells := 0, slots := 0, locals := 43 })
abbrev MX12_removes : gM := (yX12_removes, cX12_removes, 4, some .int, { frames := 1, cells := 0, slots := 0, locals := 22 })
abbrev MX12_dropTerm : gM := (yX12_dropTerm, cX12_dropTerm, 2, some .int, { frames := 2, cells := 0, slots := 0, locals := 45 })
abbrev MX12_isSide : gM := (yX12_isSide, cX12_isSide, 1, some .boolean, { frames := 0, cells := 0, slots := 0, locals := 0 })
abbrev MX12_begin : gM := (yX12_begin, cX12_begin, 4, some .int, { frames := 5, cells := 0, slots := 0, locals := 136 })
abbrev MX12_branch : gM := (yX12_branch, cX12_branch, 4, some .int, { frames := 6, cells := 0, slots := 0, locals := 171 })
abbrev MX12_step : gM := (yX12_step, cX12_step, 3, some .int, { frames := 8, cells := 0, slots := 0, locals := 216 })
abbrev MX12_drop : gM := (yX12_drop, cX12_drop, 2, some .int, { frames := 4, cells := 0, slots := 0, locals := 90 })
abbrev MX12_sets : gM := (yX12_sets, cX12_sets, 4, some .int, { frames := 0, cells := 0, slots := 0, locals := 0 })
abbrev MX12_set : gM := (yX12_set, cX12_set, 4, some .int, { frames := 2, cells := 0, slots := 0, locals := 43 })
abbrev MX12_termOf : gM := (yX12_termOf, cX12_termOf, 3, some .int, { frames := 1, cells := 0, slots := 0, locals := 22 })
abbrev MX12_value : gM := (yX12_value, cX12_value, 4, some .long, { frames := 3, cells := 0, slots := 0, locals := 79 })
abbrev MX12_corrected : gM := (yX12_corrected, cX12_corrected, 4, some .int, { frames := 5, cells := 0, slots := 0, locals := 136 })
abbrev MX12_ofKind : gM := (yX12_ofKind, cX12_ofKind, 5, some .int, { frames := 2, cells := 0, slots := 0, locals := 43 })
abbrev MX12_begunFrom : gM := (yX12_begunFrom, cX12_begunFrom, 4, some .int, { frames := 3, cells := 0, slots := 0, locals := 65 })
abbrev MX12_walkOf : gM := (yX12_walkOf, cX12_walkOf, 3, some .int, { frames := 4, cells := 0, slots := 0, locals := 88 })
abbrev MX12_placeOf : gM := (yX12_placeOf, cX12_placeOf, 4, some .int, { frames := 2, cells := 0, slots := 0, locals := 43 })
abbrev MX12_ofWalks : gM := (yX12_ofWalks, cX12_ofWalks, 4, some .int, { frames := 3, cells := 0, slots := 0, locals := 67 })
abbrev MX12_count : gM := (yX12_count, cX12_count, 2, some .int, { frames := 4, cells := 0, slots := 0, locals := 90 })
abbrev MX12_meets : gM := (yX12_meets, cX12_meets, 8, some .int, { frames := 3, cells := 0, slots := 0, locals := 79 })
abbrev MX12_square : gM := (yX12_square, cX12_square, 1, some .int, { frames := 0, cells := 0, slots := 0, locals := 0 })
abbrev MX12_lengthBits : gM := (yX12_lengthBits, cX12_lengthBits, 6, some .int, { frames := 2, cells := 0, slots := 0, locals := 43 })
abbrev MX12_nearest : gM := (yX12_nearest, cX12_nearest, 8, some .int, { frames := 2, cells := 0, slots := 0, locals := 43 })
abbrev MX12_undo : gM := (yX12_undo, cX12_undo, 2, some .int, { frames := 0, cells := 0, slots := 0, locals := 0 })
abbrev MX12_type : gM := (yX12_type, cX12_type, 2, some .int, { frames := 1, cells := 0, slots := 0, locals := 22 })
abbrev MX12_clearText : gM := (yX12_clearText, cX12_clearText, 2, some .int, { frames := 0, cells := 0, slots := 0, locals := 0 })
abbrev MX12_sees : gM := (yX12_sees, cX12_sees, 3, some .boolean, { frames := 0, cells := 0, slots := 0, locals := 0 })
abbrev MX12_readsTerm : gM := (yX12_readsTerm, cX12_readsTerm, 7, some .boolean, { frames := 1, cells := 0, slots := 0, locals := 24 })
abbrev MX12_reads : gM := (yX12_reads, cX12_reads, 3, some .boolean, { frames := 2, cells := 0, slots := 0, locals := 50 })
abbrev MX12_fault : gM := (yX12_fault, cX12_fault, 3, some .int, { frames := 3, cells := 0, slots := 0, locals := 72 })
abbrev MX12_read : gM := (yX12_read, cX12_read, 1, some .int, { frames := 3, cells := 0, slots := 0, locals := 72 })
abbrev MJxf58ca_isNaN_12338 : gM := (yJxf58ca_isNaN_12338, cJxf58ca_isNaN_12338, 1, some .boolean, { frames := 0, cells := 0, slots := 0, locals := 0 })
abbrev MJxf58ca_floatToIntBits_5c35a : gM := (yJxf58ca_floatToIntBits_5c35a, cJxf58ca_floatToIntBits_5c35a, 1, some .int, { frames := 1, cells := 0, slots := 0, locals := 23 })
abbrev MJ9_max_7cf53 : gM := (yJ9_max_7cf53, cJ9_max_7cf53, 2, some .int, { frames := 0, cells := 0, slots := 0, locals := 0 })
abbrev MJ9_min_7cf53 : gM := (yJ9_min_7cf53, cJ9_min_7cf53, 2, some .int, { frames := 0, cells := 0, slots := 0, locals := 0 })
abbrev ML_law : gM := (x, code, 4, some .boolean, room_1)
theorem inGX0 : ∀ w ∈ u_ws RX0 TX0 4, w ∈ gw := by
  intro w hw
  obtain ⟨k, hk, rfl⟩ := List.mem_map.mp hw
  have hk2 := List.mem_range.mp hk
  rcases (show k = 0 ∨ k = 1 ∨ k = 2 ∨ k = 3 by omega) with rfl | rfl | rfl | rfl
  · exact gw_1 230 rfl rfl
  · exact gw_1 232 rfl rfl
  · exact gw_1 234 rfl rfl
  · exact gw_1 236 rfl rfl
theorem inGX1 : ∀ w ∈ u_ws RX1 TX1 3, w ∈ gw := by
  intro w hw
  obtain ⟨k, hk, rfl⟩ := List.mem_map.mp hw
  have hk2 := List.mem_range.mp hk
  rcases (show k = 0 ∨ k = 1 ∨ k = 2 by omega) with rfl | rfl | rfl
  · exact gw_1 173 rfl rfl
  · exact gw_1 175 rfl rfl
  · exact gw_1 177 rfl rfl
theorem inGX2 : ∀ w ∈ u_ws RX2 TX2 2, w ∈ gw := by
  intro w hw
  obtain ⟨k, hk, rfl⟩ := List.mem_map.mp hw
  have hk2 := List.mem_range.mp hk
  rcases (show k = 0 ∨ k = 1 by omega) with rfl | rfl
  · exact gw_2 5 rfl rfl
  · exact gw_2 7 rfl rfl
theorem inGX3 : ∀ w ∈ u_ws RX3 TX3 8, w ∈ gw := by
  intro w hw
  obtain ⟨k, hk, rfl⟩ := List.mem_map.mp hw
  have hk2 := List.mem_range.mp hk
  rcases (show k = 0 ∨ k = 1 ∨ k = 2 ∨ k = 3 ∨ k = 4 ∨ k = 5 ∨ k = 6 ∨ k = 7 by omega) with rfl | rfl | rfl | rfl | rfl | rfl | rfl | rfl
  · exact gw_2 45 rfl rfl
  · exact gw_2 47 rfl rfl
  · exact gw_2 49 rfl rfl
  · exact gw_2 51 rfl rfl
  · exact gw_2 53 rfl rfl
  · exact gw_2 55 rfl rfl
  · exact gw_2 57 rfl rfl
  · exact gw_2 59 rfl rfl
theorem inGX4 : ∀ w ∈ u_ws RX4 TX4 1, w ∈ gw := by
  intro w hw
  obtain ⟨k, hk, rfl⟩ := List.mem_map.mp hw
  have hk2 := List.mem_range.mp hk
  have hk3 : k = 0 := by omega
  subst hk3
  exact gw_1 140 rfl rfl
theorem inGX5 : ∀ w ∈ u_ws RX5 TX5 3, w ∈ gw := by
  intro w hw
  obtain ⟨k, hk, rfl⟩ := List.mem_map.mp hw
  have hk2 := List.mem_range.mp hk
  rcases (show k = 0 ∨ k = 1 ∨ k = 2 by omega) with rfl | rfl | rfl
  · exact gw_1 209 rfl rfl
  · exact gw_1 211 rfl rfl
  · exact gw_1 213 rfl rfl
theorem inGX6 : ∀ w ∈ u_ws RX6 TX6 3, w ∈ gw := by
  intro w hw
  obtain ⟨k, hk, rfl⟩ := List.mem_map.mp hw
  have hk2 := List.mem_range.mp hk
  rcases (show k = 0 ∨ k = 1 ∨ k = 2 by omega) with rfl | rfl | rfl
  · exact gw_1 153 rfl rfl
  · exact gw_1 155 rfl rfl
  · exact gw_1 157 rfl rfl
theorem inGX7 : ∀ w ∈ u_ws RX7 TX7 4, w ∈ gw := by
  intro w hw
  obtain ⟨k, hk, rfl⟩ := List.mem_map.mp hw
  have hk2 := List.mem_range.mp hk
  rcases (show k = 0 ∨ k = 1 ∨ k = 2 ∨ k = 3 by omega) with rfl | rfl | rfl | rfl
  · exact gw_1 48 rfl rfl
  · exact gw_1 50 rfl rfl
  · exact gw_1 52 rfl rfl
  · exact gw_1 54 rfl rfl
theorem inGX8 : ∀ w ∈ u_ws RX8 TX8 2, w ∈ gw := by
  intro w hw
  obtain ⟨k, hk, rfl⟩ := List.mem_map.mp hw
  have hk2 := List.mem_range.mp hk
  rcases (show k = 0 ∨ k = 1 by omega) with rfl | rfl
  · exact gw_2 21 rfl rfl
  · exact gw_2 23 rfl rfl
theorem inGX9 : ∀ w ∈ u_ws RX9 TX9 10, w ∈ gw := by
  intro w hw
  obtain ⟨k, hk, rfl⟩ := List.mem_map.mp hw
  have hk2 := List.mem_range.mp hk
  rcases (show k = 0 ∨ k = 1 ∨ k = 2 ∨ k = 3 ∨ k = 4 ∨ k = 5 ∨ k = 6 ∨ k = 7 ∨ k = 8 ∨ k = 9 by omega) with rfl | rfl | rfl | rfl | rfl | rfl | rfl | rfl | rfl | rfl
  · exact gw_1 97 rfl rfl
  · exact gw_1 99 rfl rfl
  · exact gw_1 101 rfl rfl
  · exact gw_1 103 rfl rfl
  · exact gw_1 105 rfl rfl
  · exact gw_1 107 rfl rfl
  · exact gw_1 109 rfl rfl
  · exact gw_1 111 rfl rfl
  · exact gw_1 113 rfl rfl
  · exact gw_1 115 rfl rfl
theorem inGX10 : ∀ w ∈ u_ws RX10 TX10 4, w ∈ gw := by
  intro w hw
  obtain ⟨k, hk, rfl⟩ := List.mem_map.mp hw
  have hk2 := List.mem_range.mp hk
  rcases (show k = 0 ∨ k = 1 ∨ k = 2 ∨ k = 3 by omega) with rfl | rfl | rfl | rfl
  · exact gw_1 124 rfl rfl
  · exact gw_1 126 rfl rfl
  · exact gw_1 128 rfl rfl
  · exact gw_1 130 rfl rfl
theorem inGX11 : ∀ w ∈ u_ws RX11 TX11 5, w ∈ gw := by
  intro w hw
  obtain ⟨k, hk, rfl⟩ := List.mem_map.mp hw
  have hk2 := List.mem_range.mp hk
  rcases (show k = 0 ∨ k = 1 ∨ k = 2 ∨ k = 3 ∨ k = 4 by omega) with rfl | rfl | rfl | rfl | rfl
  · exact gw_2 67 rfl rfl
  · exact gw_2 69 rfl rfl
  · exact gw_2 71 rfl rfl
  · exact gw_2 73 rfl rfl
  · exact gw_2 75 rfl rfl
theorem inGX12 : ∀ w ∈ u_ws RX12 TX12 12, w ∈ gw := by
  intro w hw
  obtain ⟨k, hk, rfl⟩ := List.mem_map.mp hw
  have hk2 := List.mem_range.mp hk
  rcases (show k = 0 ∨ k = 1 ∨ k = 2 ∨ k = 3 ∨ k = 4 ∨ k = 5 ∨ k = 6 ∨ k = 7 ∨ k = 8 ∨ k = 9 ∨ k = 10 ∨ k = 11 by omega) with rfl | rfl | rfl | rfl | rfl | rfl | rfl | rfl | rfl | rfl | rfl | rfl
  · exact gw_3 237 rfl rfl
  · exact gw_3 239 rfl rfl
  · exact gw_4 1 rfl rfl
  · exact gw_4 3 rfl rfl
  · exact gw_4 5 rfl rfl
  · exact gw_4 7 rfl rfl
  · exact gw_4 9 rfl rfl
  · exact gw_4 11 rfl rfl
  · exact gw_4 13 rfl rfl
  · exact gw_4 15 rfl rfl
  · exact gw_4 17 rfl rfl
  · exact gw_4 19 rfl rfl
theorem oiX0_1 : Cond.methodLink RX0 1 objectInit ∈ gw := gw_1 191 rfl rfl
theorem clX0_7 : Cond.classLink RX0 7 RX5 ∈ gw := gw_1 192 rfl rfl
theorem lkX0_9 : gLkI RX0 9 MX5_init 0 := ⟨⟨⟨gw_1 196 rfl rfl, gw_1 10 rfl rfl, by decide, by decide, by decide +kernel⟩, Or.inr ⟨"FoldWalks", gnw_1 194 rfl rfl⟩⟩, gw_1 195 rfl rfl, rfl, rfl⟩
theorem ffX0_10 : gFf RX0 10 0 0 (.object "FoldWalks$Spot") := ⟨TX0, 4, tyX0, rfl, by decide, rfl, by decide, inGX0, tyX0_ok, nmX0, rfl, rfl, rfl, rfl, gw_1 216 rfl rfl⟩
theorem fX0_16 : gFl RX0 16 6 2 0 (.object "FoldWalks$Settings") true := ⟨RX6, TX6, 3, tyX6, rfl, by decide, rfl, by decide, inGX6, tyX6_ok, nmX6, rfl, rfl, rfl, Or.inr ⟨"FoldWalks", gnw_1 150 rfl rfl⟩⟩
theorem lkX0_24 : gLkV RX0 24 MX4_at 1 4 := ⟨⟨⟨gw_2 190 rfl rfl, gw_1 6 rfl rfl, by decide, by decide, by decide +kernel⟩, Or.inl (gw_2 187 rfl rfl)⟩, gw_2 188 rfl rfl, gw_2 189 rfl rfl, by decide, TX4, 1, rfl⟩
theorem lkX0_28 : gLkS RX0 28 MX11_isPlace 2 := ⟨⟨⟨gw_2 161 rfl rfl, gw_1 1 rfl rfl, by decide, by decide, by decide +kernel⟩, Or.inr ⟨"FoldWalks", gnw_2 191 rfl rfl⟩⟩, gw_2 160 rfl rfl⟩
theorem fX0_10 : gFl RX0 10 0 0 0 (.object "FoldWalks$Spot") true := ⟨RX0, TX0, 4, tyX0, rfl, by decide, rfl, by decide, inGX0, tyX0_ok, nmX0, rfl, rfl, rfl, Or.inl (gw_1 216 rfl rfl)⟩
theorem fX0_34 : gFl RX0 34 6 0 0 (.object "FoldWalks$Terms") true := ⟨RX6, TX6, 3, tyX6, rfl, by decide, rfl, by decide, inGX6, tyX6_ok, nmX6, rfl, rfl, rfl, Or.inr ⟨"FoldWalks", gnw_1 145 rfl rfl⟩⟩
theorem lkX0_38 : gLkV RX0 38 MX5_look 3 5 := ⟨⟨⟨gw_2 168 rfl rfl, gw_1 10 rfl rfl, by decide, by decide, by decide +kernel⟩, Or.inl (gw_2 192 rfl rfl)⟩, gw_2 166 rfl rfl, gw_2 167 rfl rfl, by decide, TX5, 3, rfl⟩
theorem lkX0_42 : gLkV RX0 42 MX5_steepness 0 5 := ⟨⟨⟨gw_2 196 rfl rfl, gw_1 10 rfl rfl, by decide, by decide, by decide +kernel⟩, Or.inl (gw_2 193 rfl rfl)⟩, gw_2 194 rfl rfl, gw_2 195 rfl rfl, by decide, TX5, 3, rfl⟩
theorem fX0_46 : gFl RX0 46 5 0 2 .long false := ⟨RX5, TX5, 3, tyX5, rfl, by decide, rfl, by decide, inGX5, tyX5_ok, nmX5, rfl, rfl, rfl, Or.inr ⟨"FoldWalks", gnw_1 199 rfl rfl⟩⟩
theorem fX0_50 : gFl RX0 50 5 1 2 .long false := ⟨RX5, TX5, 3, tyX5, rfl, by decide, rfl, by decide, inGX5, tyX5_ok, nmX5, rfl, rfl, rfl, Or.inr ⟨"FoldWalks", gnw_1 202 rfl rfl⟩⟩
theorem fX0_53 : gFl RX0 53 5 2 2 .long false := ⟨RX5, TX5, 3, tyX5, rfl, by decide, rfl, by decide, inGX5, tyX5_ok, nmX5, rfl, rfl, rfl, Or.inr ⟨"FoldWalks", gnw_1 206 rfl rfl⟩⟩
theorem fX0_56 : gFl RX0 56 0 1 1 .int false := ⟨RX0, TX0, 4, tyX0, rfl, by decide, rfl, by decide, inGX0, tyX0_ok, nmX0, rfl, rfl, rfl, Or.inl (gw_1 218 rfl rfl)⟩
theorem fX0_60 : gFl RX0 60 0 2 1 .int false := ⟨RX0, TX0, 4, tyX0, rfl, by decide, rfl, by decide, inGX0, tyX0_ok, nmX0, rfl, rfl, rfl, Or.inl (gw_1 222 rfl rfl)⟩
theorem fX0_63 : gFl RX0 63 0 3 1 .int false := ⟨RX0, TX0, 4, tyX0, rfl, by decide, rfl, by decide, inGX0, tyX0_ok, nmX0, rfl, rfl, rfl, Or.inl (gw_1 226 rfl rfl)⟩
theorem oiX1_3 : Cond.methodLink RX1 3 objectInit ∈ gw := gw_1 165 rfl rfl
theorem clX1_9 : Cond.classLink RX1 9 RX6 ∈ gw := gw_1 166 rfl rfl
theorem ffX1_11 : gFf RX1 11 1 0 (.array (.object "FoldWalks$State")) := ⟨TX1, 3, tyX1, rfl, by decide, rfl, by decide, inGX1, tyX1_ok, nmX1, rfl, rfl, rfl, rfl, gw_1 169 rfl rfl⟩
theorem fX1_11 : gFl RX1 11 1 0 0 (.array (.object "FoldWalks$State")) true := ⟨RX1, TX1, 3, tyX1, rfl, by decide, rfl, by decide, inGX1, tyX1_ok, nmX1, rfl, rfl, rfl, Or.inl (gw_1 169 rfl rfl)⟩
theorem lkX1_17 : gLkI RX1 17 MX6_init 0 := ⟨⟨⟨gw_1 28 rfl rfl, gw_1 2 rfl rfl, by decide, by decide, by decide +kernel⟩, Or.inr ⟨"FoldWalks", gnw_1 168 rfl rfl⟩⟩, gw_1 27 rfl rfl, rfl, rfl⟩
theorem fX1_18 : gFl RX1 18 1 2 1 .int false := ⟨RX1, TX1, 3, tyX1, rfl, by decide, rfl, by decide, inGX1, tyX1_ok, nmX1, rfl, rfl, rfl, Or.inl (gw_1 171 rfl rfl)⟩
theorem fX1_22 : gFl RX1 22 1 1 1 .int false := ⟨RX1, TX1, 3, tyX1, rfl, by decide, rfl, by decide, inGX1, tyX1_ok, nmX1, rfl, rfl, rfl, Or.inl (gw_1 170 rfl rfl)⟩
theorem lkX1_25 : gLkV RX1 25 MX1_latest 0 1 := ⟨⟨⟨gw_2 101 rfl rfl, gw_1 7 rfl rfl, by decide, by decide, by decide +kernel⟩, Or.inl (gw_2 98 rfl rfl)⟩, gw_2 100 rfl rfl, gw_in 0 rfl rfl, by decide, TX1, 3, rfl⟩
theorem lkX1_29 : gLkV RX1 29 MX6_copyFrom 1 6 := ⟨⟨⟨gw_2 105 rfl rfl, gw_1 2 rfl rfl, by decide, by decide, by decide +kernel⟩, Or.inl (gw_2 102 rfl rfl)⟩, gw_2 103 rfl rfl, gw_2 104 rfl rfl, by decide, TX6, 3, rfl⟩
theorem oiX2_3 : Cond.methodLink RX2 3 objectInit ∈ gw := gw_1 185 rfl rfl
theorem clX2_9 : Cond.classLink RX2 9 RX0 ∈ gw := gw_1 186 rfl rfl
theorem lkX2_11 : gLkI RX2 11 MX0_init 0 := ⟨⟨⟨gw_1 190 rfl rfl, gw_1 9 rfl rfl, by decide, by decide, by decide +kernel⟩, Or.inr ⟨"FoldWalks", gnw_1 188 rfl rfl⟩⟩, gw_1 189 rfl rfl, rfl, rfl⟩
theorem ffX2_12 : gFf RX2 12 2 0 (.object "FoldWalks$Corrector") := ⟨TX2, 2, tyX2, rfl, by decide, rfl, by decide, inGX2, tyX2_ok, nmX2, rfl, rfl, rfl, rfl, gw_2 1 rfl rfl⟩
theorem clX2_18 : Cond.classLink RX2 18 RX5 ∈ gw := gw_1 239 rfl rfl
theorem lkX2_20 : gLkI RX2 20 MX5_init 0 := ⟨⟨⟨gw_1 196 rfl rfl, gw_1 10 rfl rfl, by decide, by decide, by decide +kernel⟩, Or.inr ⟨"FoldWalks", gnw_2 0 rfl rfl⟩⟩, gw_1 195 rfl rfl, rfl, rfl⟩
theorem ffX2_21 : gFf RX2 21 2 1 (.object "FoldWalks$Spot") := ⟨TX2, 2, tyX2, rfl, by decide, rfl, by decide, inGX2, tyX2_ok, nmX2, rfl, rfl, rfl, rfl, gw_2 3 rfl rfl⟩
theorem fX2_21 : gFl RX2 21 2 1 0 (.object "FoldWalks$Spot") true := ⟨RX2, TX2, 2, tyX2, rfl, by decide, rfl, by decide, inGX2, tyX2_ok, nmX2, rfl, rfl, rfl, Or.inl (gw_2 3 rfl rfl)⟩
theorem fX2_25 : gFl RX2 25 6 0 0 (.object "FoldWalks$Terms") true := ⟨RX6, TX6, 3, tyX6, rfl, by decide, rfl, by decide, inGX6, tyX6_ok, nmX6, rfl, rfl, rfl, Or.inr ⟨"FoldWalks", gnw_1 144 rfl rfl⟩⟩
theorem lkX2_31 : gLkV RX2 31 MX9_lastX 0 9 := ⟨⟨⟨gw_3 35 rfl rfl, gw_1 5 rfl rfl, by decide, by decide, by decide +kernel⟩, Or.inl (gw_3 32 rfl rfl)⟩, gw_3 33 rfl rfl, gw_3 34 rfl rfl, by decide, TX9, 10, rfl⟩
theorem lkX2_37 : gLkV RX2 37 MX9_lastY 0 9 := ⟨⟨⟨gw_3 39 rfl rfl, gw_1 5 rfl rfl, by decide, by decide, by decide +kernel⟩, Or.inl (gw_3 36 rfl rfl)⟩, gw_3 37 rfl rfl, gw_3 38 rfl rfl, by decide, TX9, 10, rfl⟩
theorem lkX2_40 : gLkV RX2 40 MX5_look 3 5 := ⟨⟨⟨gw_2 168 rfl rfl, gw_1 10 rfl rfl, by decide, by decide, by decide +kernel⟩, Or.inl (gw_3 40 rfl rfl)⟩, gw_2 166 rfl rfl, gw_2 167 rfl rfl, by decide, TX5, 3, rfl⟩
theorem lkX2_44 : gLkV RX2 44 MX5_steepness 0 5 := ⟨⟨⟨gw_2 196 rfl rfl, gw_1 10 rfl rfl, by decide, by decide, by decide +kernel⟩, Or.inl (gw_3 41 rfl rfl)⟩, gw_2 194 rfl rfl, gw_2 195 rfl rfl, by decide, TX5, 3, rfl⟩
theorem lkX2_48 : gLkS RX2 48 MX11_rootOf 1 := ⟨⟨⟨gw_3 10 rfl rfl, gw_1 1 rfl rfl, by decide, by decide, by decide +kernel⟩, Or.inr ⟨"FoldWalks", gnw_3 8 rfl rfl⟩⟩, gw_3 9 rfl rfl⟩
theorem fX2_52 : gFl RX2 52 9 6 1 .int false := ⟨RX9, TX9, 10, tyX9, rfl, by decide, rfl, by decide, inGX9, tyX9_ok, nmX9, rfl, rfl, rfl, Or.inr ⟨"FoldWalks", gnw_1 88 rfl rfl⟩⟩
theorem lkX2_56 : gLkV RX2 56 MX2_arrives 3 2 := ⟨⟨⟨gw_3 45 rfl rfl, gw_1 8 rfl rfl, by decide, by decide, by decide +kernel⟩, Or.inl (gw_3 42 rfl rfl)⟩, gw_3 44 rfl rfl, gw_in 2 rfl rfl, by decide, TX2, 2, rfl⟩
theorem fX2_60 : gFl RX2 60 6 2 0 (.object "FoldWalks$Settings") true := ⟨RX6, TX6, 3, tyX6, rfl, by decide, rfl, by decide, inGX6, tyX6_ok, nmX6, rfl, rfl, rfl, Or.inr ⟨"FoldWalks", gnw_1 151 rfl rfl⟩⟩
theorem lkX2_66 : gLkV RX2 66 MX4_at 1 4 := ⟨⟨⟨gw_2 190 rfl rfl, gw_1 6 rfl rfl, by decide, by decide, by decide +kernel⟩, Or.inl (gw_3 13 rfl rfl)⟩, gw_2 188 rfl rfl, gw_2 189 rfl rfl, by decide, TX4, 1, rfl⟩
theorem lkX2_70 : gLkV RX2 70 MX2_land 2 2 := ⟨⟨⟨gw_3 49 rfl rfl, gw_1 8 rfl rfl, by decide, by decide, by decide +kernel⟩, Or.inl (gw_3 46 rfl rfl)⟩, gw_3 48 rfl rfl, gw_in 3 rfl rfl, by decide, TX2, 2, rfl⟩
theorem fX2_74 : gFl RX2 74 9 7 1 .boolean false := ⟨RX9, TX9, 10, tyX9, rfl, by decide, rfl, by decide, inGX9, tyX9_ok, nmX9, rfl, rfl, rfl, Or.inr ⟨"FoldWalks", gnw_1 91 rfl rfl⟩⟩
theorem fX2_78 : gFl RX2 78 9 5 1 .int false := ⟨RX9, TX9, 10, tyX9, rfl, by decide, rfl, by decide, inGX9, tyX9_ok, nmX9, rfl, rfl, rfl, Or.inr ⟨"FoldWalks", gnw_1 85 rfl rfl⟩⟩
theorem fX2_81 : gFl RX2 81 5 2 2 .long false := ⟨RX5, TX5, 3, tyX5, rfl, by decide, rfl, by decide, inGX5, tyX5_ok, nmX5, rfl, rfl, rfl, Or.inr ⟨"FoldWalks", gnw_1 207 rfl rfl⟩⟩
theorem fX2_85 : gFl RX2 85 5 1 2 .long false := ⟨RX5, TX5, 3, tyX5, rfl, by decide, rfl, by decide, inGX5, tyX5_ok, nmX5, rfl, rfl, rfl, Or.inr ⟨"FoldWalks", gnw_1 203 rfl rfl⟩⟩
theorem fX2_12 : gFl RX2 12 2 0 0 (.object "FoldWalks$Corrector") true := ⟨RX2, TX2, 2, tyX2, rfl, by decide, rfl, by decide, inGX2, tyX2_ok, nmX2, rfl, rfl, rfl, Or.inl (gw_2 1 rfl rfl)⟩
theorem lkX2_88 : gLkV RX2 88 MX0_correct 3 0 := ⟨⟨⟨gw_2 186 rfl rfl, gw_1 9 rfl rfl, by decide, by decide, by decide +kernel⟩, Or.inl (gw_3 14 rfl rfl)⟩, gw_2 184 rfl rfl, gw_2 185 rfl rfl, by decide, TX0, 4, rfl⟩
theorem fX2_92 : gFl RX2 92 0 1 1 .int false := ⟨RX0, TX0, 4, tyX0, rfl, by decide, rfl, by decide, inGX0, tyX0_ok, nmX0, rfl, rfl, rfl, Or.inr ⟨"FoldWalks", gnw_1 220 rfl rfl⟩⟩
theorem fX2_95 : gFl RX2 95 0 2 1 .int false := ⟨RX0, TX0, 4, tyX0, rfl, by decide, rfl, by decide, inGX0, tyX0_ok, nmX0, rfl, rfl, rfl, Or.inr ⟨"FoldWalks", gnw_1 224 rfl rfl⟩⟩
theorem fX2_98 : gFl RX2 98 0 0 0 (.object "FoldWalks$Spot") true := ⟨RX0, TX0, 4, tyX0, rfl, by decide, rfl, by decide, inGX0, tyX0_ok, nmX0, rfl, rfl, rfl, Or.inr ⟨"FoldWalks", gnw_1 217 rfl rfl⟩⟩
theorem lkX2_101 : gLkV RX2 101 MX9_addPlace 2 9 := ⟨⟨⟨gw_2 222 rfl rfl, gw_1 5 rfl rfl, by decide, by decide, by decide +kernel⟩, Or.inl (gw_3 50 rfl rfl)⟩, gw_2 220 rfl rfl, gw_2 221 rfl rfl, by decide, TX9, 10, rfl⟩
theorem fX2_105 : gFl RX2 105 0 3 1 .int false := ⟨RX0, TX0, 4, tyX0, rfl, by decide, rfl, by decide, inGX0, tyX0_ok, nmX0, rfl, rfl, rfl, Or.inr ⟨"FoldWalks", gnw_1 228 rfl rfl⟩⟩
theorem lkX2_108 : gLkS RX2 108 MJ9_min_7cf53 2 := ⟨⟨⟨gw_3 53 rfl rfl, gw_1 14 rfl rfl, by decide, by decide, by decide +kernel⟩, Or.inl (gw_3 51 rfl rfl)⟩, gw_3 52 rfl rfl⟩
theorem lkX2_114 : gLkS RX2 114 MJ9_max_7cf53 2 := ⟨⟨⟨gw_3 56 rfl rfl, gw_1 14 rfl rfl, by decide, by decide, by decide +kernel⟩, Or.inl (gw_3 54 rfl rfl)⟩, gw_3 55 rfl rfl⟩
theorem lkX2_117 : gLkV RX2 117 MX9_changeOfX 1 9 := ⟨⟨⟨gw_3 2 rfl rfl, gw_1 5 rfl rfl, by decide, by decide, by decide +kernel⟩, Or.inl (gw_2 239 rfl rfl)⟩, gw_3 0 rfl rfl, gw_3 1 rfl rfl, by decide, TX9, 10, rfl⟩
theorem lkX2_120 : gLkV RX2 120 MX9_changeOfY 1 9 := ⟨⟨⟨gw_3 7 rfl rfl, gw_1 5 rfl rfl, by decide, by decide, by decide +kernel⟩, Or.inl (gw_3 4 rfl rfl)⟩, gw_3 5 rfl rfl, gw_3 6 rfl rfl, by decide, TX9, 10, rfl⟩
theorem lkX2_123 : gLkV RX2 123 MX9_has 1 9 := ⟨⟨⟨gw_2 234 rfl rfl, gw_1 5 rfl rfl, by decide, by decide, by decide +kernel⟩, Or.inl (gw_3 12 rfl rfl)⟩, gw_2 232 rfl rfl, gw_2 233 rfl rfl, by decide, TX9, 10, rfl⟩
theorem fX2_127 : gFl RX2 127 9 0 0 (.array .int) true := ⟨RX9, TX9, 10, tyX9, rfl, by decide, rfl, by decide, inGX9, tyX9_ok, nmX9, rfl, rfl, rfl, Or.inr ⟨"FoldWalks", gnw_1 72 rfl rfl⟩⟩
theorem fX2_131 : gFl RX2 131 9 1 0 (.array .int) true := ⟨RX9, TX9, 10, tyX9, rfl, by decide, rfl, by decide, inGX9, tyX9_ok, nmX9, rfl, rfl, rfl, Or.inr ⟨"FoldWalks", gnw_1 75 rfl rfl⟩⟩
theorem oiX3_3 : Cond.methodLink RX3 3 objectInit ∈ gw := gw_2 31 rfl rfl
theorem clX3_9 : Cond.classLink RX3 9 RX7 ∈ gw := gw_2 32 rfl rfl
theorem lkX3_11 : gLkI RX3 11 MX7_init 0 := ⟨⟨⟨gw_1 34 rfl rfl, gw_1 3 rfl rfl, by decide, by decide, by decide +kernel⟩, Or.inr ⟨"FoldWalks", gnw_2 33 rfl rfl⟩⟩, gw_1 33 rfl rfl, rfl, rfl⟩
theorem ffX3_12 : gFf RX3 12 3 0 (.object "FoldWalks$Terms") := ⟨TX3, 8, tyX3, rfl, by decide, rfl, by decide, inGX3, tyX3_ok, nmX3, rfl, rfl, rfl, rfl, gw_2 34 rfl rfl⟩
theorem fX3_12 : gFl RX3 12 3 0 0 (.object "FoldWalks$Terms") true := ⟨RX3, TX3, 8, tyX3, rfl, by decide, rfl, by decide, inGX3, tyX3_ok, nmX3, rfl, rfl, rfl, Or.inl (gw_2 34 rfl rfl)⟩
theorem lkX3_18 : gLkV RX3 18 MX7_clear 0 7 := ⟨⟨⟨gw_3 187 rfl rfl, gw_1 3 rfl rfl, by decide, by decide, by decide +kernel⟩, Or.inl (gw_3 184 rfl rfl)⟩, gw_3 185 rfl rfl, gw_3 186 rfl rfl, by decide, TX7, 4, rfl⟩
theorem fX3_21 : gFl RX3 21 3 3 1 .int false := ⟨RX3, TX3, 8, tyX3, rfl, by decide, rfl, by decide, inGX3, tyX3_ok, nmX3, rfl, rfl, rfl, Or.inl (gw_2 40 rfl rfl)⟩
theorem fX3_25 : gFl RX3 25 3 2 1 .int false := ⟨RX3, TX3, 8, tyX3, rfl, by decide, rfl, by decide, inGX3, tyX3_ok, nmX3, rfl, rfl, rfl, Or.inl (gw_2 38 rfl rfl)⟩
theorem lkX3_28 : gLkV RX3 28 MX3_openTerm 1 3 := ⟨⟨⟨gw_3 191 rfl rfl, gw_1 12 rfl rfl, by decide, by decide, by decide +kernel⟩, Or.inl (gw_3 188 rfl rfl)⟩, gw_3 190 rfl rfl, gw_in 5 rfl rfl, by decide, TX3, 8, rfl⟩
theorem fX3_32 : gFl RX3 32 8 1 1 .int false := ⟨RX8, TX8, 2, tyX8, rfl, by decide, rfl, by decide, inGX8, tyX8_ok, nmX8, rfl, rfl, rfl, Or.inr ⟨"FoldWalks", gnw_2 19 rfl rfl⟩⟩
theorem fX3_37 : gFl RX3 37 3 1 1 .int false := ⟨RX3, TX3, 8, tyX3, rfl, by decide, rfl, by decide, inGX3, tyX3_ok, nmX3, rfl, rfl, rfl, Or.inl (gw_2 36 rfl rfl)⟩
theorem fX3_40 : gFl RX3 40 8 0 0 (.array .int) true := ⟨RX8, TX8, 2, tyX8, rfl, by decide, rfl, by decide, inGX8, tyX8_ok, nmX8, rfl, rfl, rfl, Or.inr ⟨"FoldWalks", gnw_2 17 rfl rfl⟩⟩
theorem lkX3_44 : gLkV RX3 44 MX3_take 1 3 := ⟨⟨⟨gw_3 195 rfl rfl, gw_1 12 rfl rfl, by decide, by decide, by decide +kernel⟩, Or.inl (gw_3 192 rfl rfl)⟩, gw_3 194 rfl rfl, gw_in 6 rfl rfl, by decide, TX3, 8, rfl⟩
theorem lkX3_48 : gLkV RX3 48 MX3_closeTerm 0 3 := ⟨⟨⟨gw_3 203 rfl rfl, gw_1 12 rfl rfl, by decide, by decide, by decide +kernel⟩, Or.inl (gw_3 200 rfl rfl)⟩, gw_3 202 rfl rfl, gw_in 8 rfl rfl, by decide, TX3, 8, rfl⟩
theorem lkX3_51 : gLkV RX3 51 MX3_takeSign 1 3 := ⟨⟨⟨gw_3 199 rfl rfl, gw_1 12 rfl rfl, by decide, by decide, by decide +kernel⟩, Or.inl (gw_3 196 rfl rfl)⟩, gw_3 198 rfl rfl, gw_in 7 rfl rfl, by decide, TX3, 8, rfl⟩
theorem lkX3_54 : gLkV RX3 54 MX3_takeDigit 1 3 := ⟨⟨⟨gw_3 209 rfl rfl, gw_1 12 rfl rfl, by decide, by decide, by decide +kernel⟩, Or.inl (gw_3 206 rfl rfl)⟩, gw_3 208 rfl rfl, gw_in 9 rfl rfl, by decide, TX3, 8, rfl⟩
theorem lkX3_57 : gLkV RX3 57 MX3_takeLetter 1 3 := ⟨⟨⟨gw_3 213 rfl rfl, gw_1 12 rfl rfl, by decide, by decide, by decide +kernel⟩, Or.inl (gw_3 210 rfl rfl)⟩, gw_3 212 rfl rfl, gw_in 10 rfl rfl, by decide, TX3, 8, rfl⟩
theorem lkX3_61 : gLkV RX3 61 MX7_isFull 0 7 := ⟨⟨⟨gw_2 92 rfl rfl, gw_1 3 rfl rfl, by decide, by decide, by decide +kernel⟩, Or.inl (gw_3 205 rfl rfl)⟩, gw_2 90 rfl rfl, gw_2 91 rfl rfl, by decide, TX7, 4, rfl⟩
theorem fX3_65 : gFl RX3 65 3 5 1 .int false := ⟨RX3, TX3, 8, tyX3, rfl, by decide, rfl, by decide, inGX3, tyX3_ok, nmX3, rfl, rfl, rfl, Or.inl (gw_2 42 rfl rfl)⟩
theorem fX3_68 : gFl RX3 68 3 6 1 .int false := ⟨RX3, TX3, 8, tyX3, rfl, by decide, rfl, by decide, inGX3, tyX3_ok, nmX3, rfl, rfl, rfl, Or.inl (gw_2 43 rfl rfl)⟩
theorem fX3_71 : gFl RX3 71 3 7 1 .int false := ⟨RX3, TX3, 8, tyX3, rfl, by decide, rfl, by decide, inGX3, tyX3_ok, nmX3, rfl, rfl, rfl, Or.inl (gw_2 44 rfl rfl)⟩
theorem fX3_74 : gFl RX3 74 3 4 1 .int false := ⟨RX3, TX3, 8, tyX3, rfl, by decide, rfl, by decide, inGX3, tyX3_ok, nmX3, rfl, rfl, rfl, Or.inl (gw_2 41 rfl rfl)⟩
theorem lkX3_77 : gLkV RX3 77 MX7_add 3 7 := ⟨⟨⟨gw_2 133 rfl rfl, gw_1 3 rfl rfl, by decide, by decide, by decide +kernel⟩, Or.inl (gw_3 204 rfl rfl)⟩, gw_2 131 rfl rfl, gw_2 132 rfl rfl, by decide, TX7, 4, rfl⟩
theorem oiX4_1 : Cond.methodLink RX4 1 objectInit ∈ gw := gw_1 138 rfl rfl
theorem ffX4_7 : gFf RX4 7 4 0 (.array .int) := ⟨TX4, 1, tyX4, rfl, by decide, rfl, by decide, inGX4, tyX4_ok, nmX4, rfl, rfl, rfl, rfl, gw_1 139 rfl rfl⟩
theorem gsX4_13 : Cond.fieldLink RX4 13 RX4 "LEAST" "[I" ∈ gw := gw_3 76 rfl rfl
theorem gsX4_16 : Cond.fieldLink RX4 16 RX4 "GREATEST" "[I" ∈ gw := gw_3 78 rfl rfl
theorem lkX4_19 : gLkS RX4 19 MX11_isWithin 3 := ⟨⟨⟨gw_2 86 rfl rfl, gw_1 1 rfl rfl, by decide, by decide, by decide +kernel⟩, Or.inr ⟨"FoldWalks", gnw_3 80 rfl rfl⟩⟩, gw_2 85 rfl rfl⟩
theorem fX4_7 : gFl RX4 7 4 0 0 (.array .int) true := ⟨RX4, TX4, 1, tyX4, rfl, by decide, rfl, by decide, inGX4, tyX4_ok, nmX4, rfl, rfl, rfl, Or.inl (gw_1 139 rfl rfl)⟩
theorem lkX4_25 : gLkS RX4 25 MX4_allows 2 := ⟨⟨⟨gw_3 75 rfl rfl, gw_1 6 rfl rfl, by decide, by decide, by decide +kernel⟩, Or.inl (gw_3 85 rfl rfl)⟩, gw_3 74 rfl rfl⟩
theorem oiX5_1 : Cond.methodLink RX5 1 objectInit ∈ gw := gw_1 197 rfl rfl
theorem fX5_7 : gFl RX5 7 5 0 2 .long false := ⟨RX5, TX5, 3, tyX5, rfl, by decide, rfl, by decide, inGX5, tyX5_ok, nmX5, rfl, rfl, rfl, Or.inl (gw_1 198 rfl rfl)⟩
theorem fX5_13 : gFl RX5 13 5 1 2 .long false := ⟨RX5, TX5, 3, tyX5, rfl, by decide, rfl, by decide, inGX5, tyX5_ok, nmX5, rfl, rfl, rfl, Or.inl (gw_1 201 rfl rfl)⟩
theorem fX5_16 : gFl RX5 16 5 2 2 .long false := ⟨RX5, TX5, 3, tyX5, rfl, by decide, rfl, by decide, inGX5, tyX5_ok, nmX5, rfl, rfl, rfl, Or.inl (gw_1 205 rfl rfl)⟩
theorem fX5_19 : gFl RX5 19 7 3 1 .int false := ⟨RX7, TX7, 4, tyX7, rfl, by decide, rfl, by decide, inGX7, tyX7_ok, nmX7, rfl, rfl, rfl, Or.inr ⟨"FoldWalks", gnw_1 46 rfl rfl⟩⟩
theorem fX5_25 : gFl RX5 25 7 1 0 (.array .int) true := ⟨RX7, TX7, 4, tyX7, rfl, by decide, rfl, by decide, inGX7, tyX7_ok, nmX7, rfl, rfl, rfl, Or.inr ⟨"FoldWalks", gnw_1 40 rfl rfl⟩⟩
theorem fX5_29 : gFl RX5 29 7 2 0 (.array .int) true := ⟨RX7, TX7, 4, tyX7, rfl, by decide, rfl, by decide, inGX7, tyX7_ok, nmX7, rfl, rfl, rfl, Or.inr ⟨"FoldWalks", gnw_1 43 rfl rfl⟩⟩
theorem fX5_32 : gFl RX5 32 7 0 0 (.array .int) true := ⟨RX7, TX7, 4, tyX7, rfl, by decide, rfl, by decide, inGX7, tyX7_ok, nmX7, rfl, rfl, rfl, Or.inr ⟨"FoldWalks", gnw_1 37 rfl rfl⟩⟩
theorem lkX5_35 : gLkV RX5 35 MX7_scale 1 7 := ⟨⟨⟨gw_2 172 rfl rfl, gw_1 3 rfl rfl, by decide, by decide, by decide +kernel⟩, Or.inl (gw_2 169 rfl rfl)⟩, gw_2 170 rfl rfl, gw_2 171 rfl rfl, by decide, TX7, 4, rfl⟩
theorem lkX5_39 : gLkS RX5 39 MX11_power 2 := ⟨⟨⟨gw_2 176 rfl rfl, gw_1 1 rfl rfl, by decide, by decide, by decide +kernel⟩, Or.inr ⟨"FoldWalks", gnw_2 177 rfl rfl⟩⟩, gw_2 175 rfl rfl⟩
theorem oiX6_1 : Cond.methodLink RX6 1 objectInit ∈ gw := gw_1 29 rfl rfl
theorem clX6_7 : Cond.classLink RX6 7 RX7 ∈ gw := gw_1 30 rfl rfl
theorem lkX6_9 : gLkI RX6 9 MX7_init 0 := ⟨⟨⟨gw_1 34 rfl rfl, gw_1 3 rfl rfl, by decide, by decide, by decide +kernel⟩, Or.inr ⟨"FoldWalks", gnw_1 32 rfl rfl⟩⟩, gw_1 33 rfl rfl, rfl, rfl⟩
theorem ffX6_10 : gFf RX6 10 6 0 (.object "FoldWalks$Terms") := ⟨TX6, 3, tyX6, rfl, by decide, rfl, by decide, inGX6, tyX6_ok, nmX6, rfl, rfl, rfl, rfl, gw_1 143 rfl rfl⟩
theorem clX6_16 : Cond.classLink RX6 16 RX10 ∈ gw := gw_1 58 rfl rfl
theorem lkX6_18 : gLkI RX6 18 MX10_init 0 := ⟨⟨⟨gw_1 62 rfl rfl, gw_1 4 rfl rfl, by decide, by decide, by decide +kernel⟩, Or.inl (gw_1 60 rfl rfl)⟩, gw_1 61 rfl rfl, rfl, rfl⟩
theorem ffX6_19 : gFf RX6 19 6 1 (.object "FoldWalks$Walks") := ⟨TX6, 3, tyX6, rfl, by decide, rfl, by decide, inGX6, tyX6_ok, nmX6, rfl, rfl, rfl, rfl, gw_1 147 rfl rfl⟩
theorem clX6_23 : Cond.classLink RX6 23 RX4 ∈ gw := gw_1 133 rfl rfl
theorem lkX6_25 : gLkI RX6 25 MX4_init 0 := ⟨⟨⟨gw_1 137 rfl rfl, gw_1 6 rfl rfl, by decide, by decide, by decide +kernel⟩, Or.inr ⟨"FoldWalks", gnw_1 135 rfl rfl⟩⟩, gw_1 136 rfl rfl, rfl, rfl⟩
theorem ffX6_26 : gFf RX6 26 6 2 (.object "FoldWalks$Settings") := ⟨TX6, 3, tyX6, rfl, by decide, rfl, by decide, inGX6, tyX6_ok, nmX6, rfl, rfl, rfl, rfl, gw_1 149 rfl rfl⟩
theorem fX6_10 : gFl RX6 10 6 0 0 (.object "FoldWalks$Terms") true := ⟨RX6, TX6, 3, tyX6, rfl, by decide, rfl, by decide, inGX6, tyX6_ok, nmX6, rfl, rfl, rfl, Or.inl (gw_1 143 rfl rfl)⟩
theorem lkX6_30 : gLkV RX6 30 MX7_copyFrom 1 7 := ⟨⟨⟨gw_2 109 rfl rfl, gw_1 3 rfl rfl, by decide, by decide, by decide +kernel⟩, Or.inl (gw_2 106 rfl rfl)⟩, gw_2 107 rfl rfl, gw_2 108 rfl rfl, by decide, TX7, 4, rfl⟩
theorem fX6_19 : gFl RX6 19 6 1 0 (.object "FoldWalks$Walks") true := ⟨RX6, TX6, 3, tyX6, rfl, by decide, rfl, by decide, inGX6, tyX6_ok, nmX6, rfl, rfl, rfl, Or.inl (gw_1 147 rfl rfl)⟩
theorem lkX6_34 : gLkV RX6 34 MX10_copyFrom 1 10 := ⟨⟨⟨gw_2 113 rfl rfl, gw_1 4 rfl rfl, by decide, by decide, by decide +kernel⟩, Or.inl (gw_2 110 rfl rfl)⟩, gw_2 111 rfl rfl, gw_2 112 rfl rfl, by decide, TX10, 4, rfl⟩
theorem fX6_26 : gFl RX6 26 6 2 0 (.object "FoldWalks$Settings") true := ⟨RX6, TX6, 3, tyX6, rfl, by decide, rfl, by decide, inGX6, tyX6_ok, nmX6, rfl, rfl, rfl, Or.inl (gw_1 149 rfl rfl)⟩
theorem lkX6_37 : gLkV RX6 37 MX4_copyFrom 1 4 := ⟨⟨⟨gw_2 125 rfl rfl, gw_1 6 rfl rfl, by decide, by decide, by decide +kernel⟩, Or.inl (gw_2 122 rfl rfl)⟩, gw_2 123 rfl rfl, gw_2 124 rfl rfl, by decide, TX4, 1, rfl⟩
theorem oiX7_3 : Cond.methodLink RX7 3 objectInit ∈ gw := gw_1 35 rfl rfl
theorem ffX7_9 : gFf RX7 9 7 0 (.array .int) := ⟨TX7, 4, tyX7, rfl, by decide, rfl, by decide, inGX7, tyX7_ok, nmX7, rfl, rfl, rfl, rfl, gw_1 36 rfl rfl⟩
theorem ffX7_15 : gFf RX7 15 7 1 (.array .int) := ⟨TX7, 4, tyX7, rfl, by decide, rfl, by decide, inGX7, tyX7_ok, nmX7, rfl, rfl, rfl, rfl, gw_1 39 rfl rfl⟩
theorem ffX7_18 : gFf RX7 18 7 2 (.array .int) := ⟨TX7, 4, tyX7, rfl, by decide, rfl, by decide, inGX7, tyX7_ok, nmX7, rfl, rfl, rfl, rfl, gw_1 42 rfl rfl⟩
theorem fX7_21 : gFl RX7 21 7 3 1 .int false := ⟨RX7, TX7, 4, tyX7, rfl, by decide, rfl, by decide, inGX7, tyX7_ok, nmX7, rfl, rfl, rfl, Or.inl (gw_1 45 rfl rfl)⟩
theorem lkX7_25 : gLkV RX7 25 MX7_isFull 0 7 := ⟨⟨⟨gw_2 92 rfl rfl, gw_1 3 rfl rfl, by decide, by decide, by decide +kernel⟩, Or.inl (gw_2 134 rfl rfl)⟩, gw_2 90 rfl rfl, gw_2 91 rfl rfl, by decide, TX7, 4, rfl⟩
theorem fX7_9 : gFl RX7 9 7 0 0 (.array .int) true := ⟨RX7, TX7, 4, tyX7, rfl, by decide, rfl, by decide, inGX7, tyX7_ok, nmX7, rfl, rfl, rfl, Or.inl (gw_1 36 rfl rfl)⟩
theorem fX7_15 : gFl RX7 15 7 1 0 (.array .int) true := ⟨RX7, TX7, 4, tyX7, rfl, by decide, rfl, by decide, inGX7, tyX7_ok, nmX7, rfl, rfl, rfl, Or.inl (gw_1 39 rfl rfl)⟩
theorem fX7_18 : gFl RX7 18 7 2 0 (.array .int) true := ⟨RX7, TX7, 4, tyX7, rfl, by decide, rfl, by decide, inGX7, tyX7_ok, nmX7, rfl, rfl, rfl, Or.inl (gw_1 42 rfl rfl)⟩
theorem lkX7_29 : gLkV RX7 29 MX7_has 1 7 := ⟨⟨⟨gw_2 142 rfl rfl, gw_1 3 rfl rfl, by decide, by decide, by decide +kernel⟩, Or.inl (gw_2 148 rfl rfl)⟩, gw_2 140 rfl rfl, gw_2 141 rfl rfl, by decide, TX7, 4, rfl⟩
theorem lkX7_33 : gLkS RX7 33 MX11_power 2 := ⟨⟨⟨gw_2 176 rfl rfl, gw_1 1 rfl rfl, by decide, by decide, by decide +kernel⟩, Or.inr ⟨"FoldWalks", gnw_2 174 rfl rfl⟩⟩, gw_2 175 rfl rfl⟩
theorem lkX7_37 : gLkV RX7 37 MX7_scale 1 7 := ⟨⟨⟨gw_2 172 rfl rfl, gw_1 3 rfl rfl, by decide, by decide, by decide +kernel⟩, Or.inl (gw_3 121 rfl rfl)⟩, gw_2 170 rfl rfl, gw_2 171 rfl rfl, by decide, TX7, 4, rfl⟩
theorem kcX7_41 : Cond.constantLong RX7 41 (256) ∈ gw := gw_2 173 rfl rfl
theorem oiX8_3 : Cond.methodLink RX8 3 objectInit ∈ gw := gw_2 15 rfl rfl
theorem ffX8_9 : gFf RX8 9 8 0 (.array .int) := ⟨TX8, 2, tyX8, rfl, by decide, rfl, by decide, inGX8, tyX8_ok, nmX8, rfl, rfl, rfl, rfl, gw_2 16 rfl rfl⟩
theorem fX8_15 : gFl RX8 15 8 1 1 .int false := ⟨RX8, TX8, 2, tyX8, rfl, by decide, rfl, by decide, inGX8, tyX8_ok, nmX8, rfl, rfl, rfl, Or.inl (gw_2 18 rfl rfl)⟩
theorem lkX8_19 : gLkV RX8 19 MX8_isFull 0 8 := ⟨⟨⟨gw_3 166 rfl rfl, gw_1 11 rfl rfl, by decide, by decide, by decide +kernel⟩, Or.inl (gw_3 171 rfl rfl)⟩, gw_3 164 rfl rfl, gw_3 165 rfl rfl, by decide, TX8, 2, rfl⟩
theorem fX8_9 : gFl RX8 9 8 0 0 (.array .int) true := ⟨RX8, TX8, 2, tyX8, rfl, by decide, rfl, by decide, inGX8, tyX8_ok, nmX8, rfl, rfl, rfl, Or.inl (gw_2 16 rfl rfl)⟩
theorem oiX9_3 : Cond.methodLink RX9 3 objectInit ∈ gw := gw_1 70 rfl rfl
theorem ffX9_9 : gFf RX9 9 9 0 (.array .int) := ⟨TX9, 10, tyX9, rfl, by decide, rfl, by decide, inGX9, tyX9_ok, nmX9, rfl, rfl, rfl, rfl, gw_1 71 rfl rfl⟩
theorem ffX9_15 : gFf RX9 15 9 1 (.array .int) := ⟨TX9, 10, tyX9, rfl, by decide, rfl, by decide, inGX9, tyX9_ok, nmX9, rfl, rfl, rfl, rfl, gw_1 74 rfl rfl⟩
theorem ffX9_18 : gFf RX9 18 9 2 (.array .int) := ⟨TX9, 10, tyX9, rfl, by decide, rfl, by decide, inGX9, tyX9_ok, nmX9, rfl, rfl, rfl, rfl, gw_1 77 rfl rfl⟩
theorem ffX9_21 : gFf RX9 21 9 3 (.array .int) := ⟨TX9, 10, tyX9, rfl, by decide, rfl, by decide, inGX9, tyX9_ok, nmX9, rfl, rfl, rfl, rfl, gw_1 79 rfl rfl⟩
theorem fX9_24 : gFl RX9 24 9 4 1 .int false := ⟨RX9, TX9, 10, tyX9, rfl, by decide, rfl, by decide, inGX9, tyX9_ok, nmX9, rfl, rfl, rfl, Or.inl (gw_1 81 rfl rfl)⟩
theorem fX9_28 : gFl RX9 28 9 5 1 .int false := ⟨RX9, TX9, 10, tyX9, rfl, by decide, rfl, by decide, inGX9, tyX9_ok, nmX9, rfl, rfl, rfl, Or.inl (gw_1 84 rfl rfl)⟩
theorem fX9_31 : gFl RX9 31 9 6 1 .int false := ⟨RX9, TX9, 10, tyX9, rfl, by decide, rfl, by decide, inGX9, tyX9_ok, nmX9, rfl, rfl, rfl, Or.inl (gw_1 87 rfl rfl)⟩
theorem fX9_34 : gFl RX9 34 9 7 1 .boolean false := ⟨RX9, TX9, 10, tyX9, rfl, by decide, rfl, by decide, inGX9, tyX9_ok, nmX9, rfl, rfl, rfl, Or.inl (gw_1 90 rfl rfl)⟩
theorem fX9_38 : gFl RX9 38 9 8 1 .int false := ⟨RX9, TX9, 10, tyX9, rfl, by decide, rfl, by decide, inGX9, tyX9_ok, nmX9, rfl, rfl, rfl, Or.inl (gw_1 92 rfl rfl)⟩
theorem fX9_41 : gFl RX9 41 9 9 1 .int false := ⟨RX9, TX9, 10, tyX9, rfl, by decide, rfl, by decide, inGX9, tyX9_ok, nmX9, rfl, rfl, rfl, Or.inl (gw_1 95 rfl rfl)⟩
theorem fX9_9 : gFl RX9 9 9 0 0 (.array .int) true := ⟨RX9, TX9, 10, tyX9, rfl, by decide, rfl, by decide, inGX9, tyX9_ok, nmX9, rfl, rfl, rfl, Or.inl (gw_1 71 rfl rfl)⟩
theorem fX9_44 : gFl RX9 44 0 1 1 .int false := ⟨RX0, TX0, 4, tyX0, rfl, by decide, rfl, by decide, inGX0, tyX0_ok, nmX0, rfl, rfl, rfl, Or.inr ⟨"FoldWalks", gnw_1 219 rfl rfl⟩⟩
theorem fX9_15 : gFl RX9 15 9 1 0 (.array .int) true := ⟨RX9, TX9, 10, tyX9, rfl, by decide, rfl, by decide, inGX9, tyX9_ok, nmX9, rfl, rfl, rfl, Or.inl (gw_1 74 rfl rfl)⟩
theorem fX9_49 : gFl RX9 49 0 2 1 .int false := ⟨RX0, TX0, 4, tyX0, rfl, by decide, rfl, by decide, inGX0, tyX0_ok, nmX0, rfl, rfl, rfl, Or.inr ⟨"FoldWalks", gnw_1 223 rfl rfl⟩⟩
theorem fX9_18 : gFl RX9 18 9 2 0 (.array .int) true := ⟨RX9, TX9, 10, tyX9, rfl, by decide, rfl, by decide, inGX9, tyX9_ok, nmX9, rfl, rfl, rfl, Or.inl (gw_1 77 rfl rfl)⟩
theorem fX9_52 : gFl RX9 52 0 3 1 .int false := ⟨RX0, TX0, 4, tyX0, rfl, by decide, rfl, by decide, inGX0, tyX0_ok, nmX0, rfl, rfl, rfl, Or.inr ⟨"FoldWalks", gnw_1 227 rfl rfl⟩⟩
theorem fX9_21 : gFl RX9 21 9 3 0 (.array .int) true := ⟨RX9, TX9, 10, tyX9, rfl, by decide, rfl, by decide, inGX9, tyX9_ok, nmX9, rfl, rfl, rfl, Or.inl (gw_1 79 rfl rfl)⟩
theorem lkX9_54 : gLkV RX9 54 MX9_has 1 9 := ⟨⟨⟨gw_2 234 rfl rfl, gw_1 5 rfl rfl, by decide, by decide, by decide +kernel⟩, Or.inl (gw_3 3 rfl rfl)⟩, gw_2 232 rfl rfl, gw_2 233 rfl rfl, by decide, TX9, 10, rfl⟩
theorem lkX9_58 : gLkV RX9 58 MX9_changeOfX 1 9 := ⟨⟨⟨gw_3 2 rfl rfl, gw_1 5 rfl rfl, by decide, by decide, by decide +kernel⟩, Or.inl (gw_3 130 rfl rfl)⟩, gw_3 0 rfl rfl, gw_3 1 rfl rfl, by decide, TX9, 10, rfl⟩
theorem lkX9_62 : gLkV RX9 62 MX9_changeOfY 1 9 := ⟨⟨⟨gw_3 7 rfl rfl, gw_1 5 rfl rfl, by decide, by decide, by decide +kernel⟩, Or.inl (gw_3 131 rfl rfl)⟩, gw_3 5 rfl rfl, gw_3 6 rfl rfl, by decide, TX9, 10, rfl⟩
theorem lkX9_65 : gLkS RX9 65 MX11_rootOf 1 := ⟨⟨⟨gw_3 10 rfl rfl, gw_1 1 rfl rfl, by decide, by decide, by decide +kernel⟩, Or.inr ⟨"FoldWalks", gnw_3 132 rfl rfl⟩⟩, gw_3 9 rfl rfl⟩
theorem lkX9_69 : gLkV RX9 69 MX9_squaresTo 3 9 := ⟨⟨⟨gw_3 148 rfl rfl, gw_1 5 rfl rfl, by decide, by decide, by decide +kernel⟩, Or.inl (gw_3 145 rfl rfl)⟩, gw_3 147 rfl rfl, gw_in 4 rfl rfl, by decide, TX9, 10, rfl⟩
theorem lkX9_73 : gLkV RX9 73 MX9_start 4 9 := ⟨⟨⟨gw_2 121 rfl rfl, gw_1 5 rfl rfl, by decide, by decide, by decide +kernel⟩, Or.inl (gw_2 118 rfl rfl)⟩, gw_2 119 rfl rfl, gw_2 120 rfl rfl, by decide, TX9, 10, rfl⟩
theorem oiX10_3 : Cond.methodLink RX10 3 objectInit ∈ gw := gw_1 63 rfl rfl
theorem clX10_9 : Cond.classLink RX10 9 RX9 ∈ gw := gw_1 64 rfl rfl
theorem ffX10_11 : gFf RX10 11 10 0 (.array (.object "FoldWalks$Walk")) := ⟨TX10, 4, tyX10, rfl, by decide, rfl, by decide, inGX10, tyX10_ok, nmX10, rfl, rfl, rfl, rfl, gw_1 119 rfl rfl⟩
theorem ffX10_17 : gFf RX10 17 10 1 (.array .boolean) := ⟨TX10, 4, tyX10, rfl, by decide, rfl, by decide, inGX10, tyX10_ok, nmX10, rfl, rfl, rfl, rfl, gw_1 120 rfl rfl⟩
theorem ffX10_21 : gFf RX10 21 10 2 (.array .int) := ⟨TX10, 4, tyX10, rfl, by decide, rfl, by decide, inGX10, tyX10_ok, nmX10, rfl, rfl, rfl, rfl, gw_1 121 rfl rfl⟩
theorem fX10_11 : gFl RX10 11 10 0 0 (.array (.object "FoldWalks$Walk")) true := ⟨RX10, TX10, 4, tyX10, rfl, by decide, rfl, by decide, inGX10, tyX10_ok, nmX10, rfl, rfl, rfl, Or.inl (gw_1 119 rfl rfl)⟩
theorem lkX10_25 : gLkI RX10 25 MX9_init 0 := ⟨⟨⟨gw_1 69 rfl rfl, gw_1 5 rfl rfl, by decide, by decide, by decide +kernel⟩, Or.inr ⟨"FoldWalks", gnw_1 67 rfl rfl⟩⟩, gw_1 68 rfl rfl, rfl, rfl⟩
theorem fX10_26 : gFl RX10 26 10 3 1 .int false := ⟨RX10, TX10, 4, tyX10, rfl, by decide, rfl, by decide, inGX10, tyX10_ok, nmX10, rfl, rfl, rfl, Or.inl (gw_1 122 rfl rfl)⟩
theorem lkX10_30 : gLkV RX10 30 MX10_isFull 0 10 := ⟨⟨⟨gw_2 211 rfl rfl, gw_1 4 rfl rfl, by decide, by decide, by decide +kernel⟩, Or.inl (gw_2 216 rfl rfl)⟩, gw_2 209 rfl rfl, gw_2 210 rfl rfl, by decide, TX10, 4, rfl⟩
theorem fX10_34 : gFl RX10 34 9 8 1 .int false := ⟨RX9, TX9, 10, tyX9, rfl, by decide, rfl, by decide, inGX9, tyX9_ok, nmX9, rfl, rfl, rfl, Or.inr ⟨"FoldWalks", gnw_1 93 rfl rfl⟩⟩
theorem fX10_17 : gFl RX10 17 10 1 0 (.array .boolean) true := ⟨RX10, TX10, 4, tyX10, rfl, by decide, rfl, by decide, inGX10, tyX10_ok, nmX10, rfl, rfl, rfl, Or.inl (gw_1 120 rfl rfl)⟩
theorem lkX10_37 : gLkV RX10 37 MX10_markFamily 1 10 := ⟨⟨⟨gw_3 68 rfl rfl, gw_1 4 rfl rfl, by decide, by decide, by decide +kernel⟩, Or.inl (gw_3 65 rfl rfl)⟩, gw_3 66 rfl rfl, gw_3 67 rfl rfl, by decide, TX10, 4, rfl⟩
theorem fX10_21 : gFl RX10 21 10 2 0 (.array .int) true := ⟨RX10, TX10, 4, tyX10, rfl, by decide, rfl, by decide, inGX10, tyX10_ok, nmX10, rfl, rfl, rfl, Or.inl (gw_1 121 rfl rfl)⟩
theorem fX10_41 : gFl RX10 41 9 4 1 .int false := ⟨RX9, TX9, 10, tyX9, rfl, by decide, rfl, by decide, inGX9, tyX9_ok, nmX9, rfl, rfl, rfl, Or.inr ⟨"FoldWalks", gnw_1 82 rfl rfl⟩⟩
theorem lkX10_42 : gLkV RX10 42 MX9_placesOfKind 1 9 := ⟨⟨⟨gw_3 94 rfl rfl, gw_1 5 rfl rfl, by decide, by decide, by decide +kernel⟩, Or.inl (gw_3 112 rfl rfl)⟩, gw_3 92 rfl rfl, gw_3 93 rfl rfl, by decide, TX9, 10, rfl⟩
theorem lkX10_45 : gLkV RX10 45 MX9_copyFrom 1 9 := ⟨⟨⟨gw_2 117 rfl rfl, gw_1 5 rfl rfl, by decide, by decide, by decide +kernel⟩, Or.inl (gw_2 114 rfl rfl)⟩, gw_2 115 rfl rfl, gw_2 116 rfl rfl, by decide, TX9, 10, rfl⟩
theorem oiX11_1 : Cond.methodLink RX11 1 objectInit ∈ gw := gw_1 21 rfl rfl
theorem clX11_7 : Cond.classLink RX11 7 RX6 ∈ gw := gw_1 24 rfl rfl
theorem lkX11_9 : gLkI RX11 9 MX6_init 0 := ⟨⟨⟨gw_1 28 rfl rfl, gw_1 2 rfl rfl, by decide, by decide, by decide +kernel⟩, Or.inr ⟨"FoldWalks", gnw_1 26 rfl rfl⟩⟩, gw_1 27 rfl rfl, rfl, rfl⟩
theorem ffX11_10 : gFf RX11 10 11 0 (.object "FoldWalks$State") := ⟨TX11, 5, tyX11, rfl, by decide, rfl, by decide, inGX11, tyX11_ok, nmX11, rfl, rfl, rfl, rfl, gw_2 62 rfl rfl⟩
theorem clX11_16 : Cond.classLink RX11 16 RX1 ∈ gw := gw_1 160 rfl rfl
theorem lkX11_18 : gLkI RX11 18 MX1_init 0 := ⟨⟨⟨gw_1 164 rfl rfl, gw_1 7 rfl rfl, by decide, by decide, by decide +kernel⟩, Or.inl (gw_1 162 rfl rfl)⟩, gw_1 163 rfl rfl, rfl, rfl⟩
theorem ffX11_19 : gFf RX11 19 11 1 (.object "FoldWalks$History") := ⟨TX11, 5, tyX11, rfl, by decide, rfl, by decide, inGX11, tyX11_ok, nmX11, rfl, rfl, rfl, rfl, gw_2 63 rfl rfl⟩
theorem clX11_23 : Cond.classLink RX11 23 RX2 ∈ gw := gw_1 180 rfl rfl
theorem lkX11_25 : gLkI RX11 25 MX2_init 0 := ⟨⟨⟨gw_1 184 rfl rfl, gw_1 8 rfl rfl, by decide, by decide, by decide +kernel⟩, Or.inr ⟨"FoldWalks", gnw_1 182 rfl rfl⟩⟩, gw_1 183 rfl rfl, rfl, rfl⟩
theorem ffX11_26 : gFf RX11 26 11 2 (.object "FoldWalks$Mover") := ⟨TX11, 5, tyX11, rfl, by decide, rfl, by decide, inGX11, tyX11_ok, nmX11, rfl, rfl, rfl, rfl, gw_2 64 rfl rfl⟩
theorem clX11_30 : Cond.classLink RX11 30 RX8 ∈ gw := gw_2 10 rfl rfl
theorem lkX11_32 : gLkI RX11 32 MX8_init 0 := ⟨⟨⟨gw_2 14 rfl rfl, gw_1 11 rfl rfl, by decide, by decide, by decide +kernel⟩, Or.inr ⟨"FoldWalks", gnw_2 12 rfl rfl⟩⟩, gw_2 13 rfl rfl, rfl, rfl⟩
theorem ffX11_33 : gFf RX11 33 11 3 (.object "FoldWalks$Text") := ⟨TX11, 5, tyX11, rfl, by decide, rfl, by decide, inGX11, tyX11_ok, nmX11, rfl, rfl, rfl, rfl, gw_2 65 rfl rfl⟩
theorem clX11_37 : Cond.classLink RX11 37 RX3 ∈ gw := gw_2 26 rfl rfl
theorem lkX11_39 : gLkI RX11 39 MX3_init 0 := ⟨⟨⟨gw_2 30 rfl rfl, gw_1 12 rfl rfl, by decide, by decide, by decide +kernel⟩, Or.inr ⟨"FoldWalks", gnw_2 28 rfl rfl⟩⟩, gw_2 29 rfl rfl, rfl, rfl⟩
theorem ffX11_40 : gFf RX11 40 11 4 (.object "FoldWalks$Reader") := ⟨TX11, 5, tyX11, rfl, by decide, rfl, by decide, inGX11, tyX11_ok, nmX11, rfl, rfl, rfl, rfl, gw_2 66 rfl rfl⟩
theorem kcX11_44 : Cond.constantLong RX11 44 (-5) ∈ gw := gw_2 82 rfl rfl
theorem kcX11_46 : Cond.constantLong RX11 46 (5) ∈ gw := gw_2 83 rfl rfl
theorem lkX11_48 : gLkS RX11 48 MX11_isWithin 3 := ⟨⟨⟨gw_2 86 rfl rfl, gw_1 1 rfl rfl, by decide, by decide, by decide +kernel⟩, Or.inl (gw_2 84 rfl rfl)⟩, gw_2 85 rfl rfl⟩
theorem kcX11_52 : Cond.constant RX11 52 (-1000001) ∈ gw := gw_2 87 rfl rfl
theorem kcX11_53 : Cond.constantLong RX11 53 (3) ∈ gw := gw_2 88 rfl rfl
theorem fX11_10 : gFl RX11 10 11 0 0 (.object "FoldWalks$State") true := ⟨RX11, TX11, 5, tyX11, rfl, by decide, rfl, by decide, inGX11, tyX11_ok, nmX11, rfl, rfl, rfl, Or.inl (gw_2 62 rfl rfl)⟩
theorem fX11_55 : gFl RX11 55 6 0 0 (.object "FoldWalks$Terms") true := ⟨RX6, TX6, 3, tyX6, rfl, by decide, rfl, by decide, inGX6, tyX6_ok, nmX6, rfl, rfl, rfl, Or.inr ⟨"FoldWalks", gnw_1 146 rfl rfl⟩⟩
theorem lkX11_59 : gLkV RX11 59 MX7_isFull 0 7 := ⟨⟨⟨gw_2 92 rfl rfl, gw_1 3 rfl rfl, by decide, by decide, by decide +kernel⟩, Or.inl (gw_2 89 rfl rfl)⟩, gw_2 90 rfl rfl, gw_2 91 rfl rfl, by decide, TX7, 4, rfl⟩
theorem kcX11_65 : Cond.constant RX11 65 (-1000003) ∈ gw := gw_2 93 rfl rfl
theorem fX11_19 : gFl RX11 19 11 1 0 (.object "FoldWalks$History") true := ⟨RX11, TX11, 5, tyX11, rfl, by decide, rfl, by decide, inGX11, tyX11_ok, nmX11, rfl, rfl, rfl, Or.inl (gw_2 63 rfl rfl)⟩
theorem lkX11_66 : gLkV RX11 66 MX1_keep 1 1 := ⟨⟨⟨gw_2 97 rfl rfl, gw_1 7 rfl rfl, by decide, by decide, by decide +kernel⟩, Or.inl (gw_2 94 rfl rfl)⟩, gw_2 95 rfl rfl, gw_2 96 rfl rfl, by decide, TX1, 3, rfl⟩
theorem fX11_70 : gFl RX11 70 6 1 0 (.object "FoldWalks$Walks") true := ⟨RX6, TX6, 3, tyX6, rfl, by decide, rfl, by decide, inGX6, tyX6_ok, nmX6, rfl, rfl, rfl, Or.inr ⟨"FoldWalks", gnw_1 148 rfl rfl⟩⟩
theorem lkX11_74 : gLkV RX11 74 MX10_clear 0 10 := ⟨⟨⟨gw_2 129 rfl rfl, gw_1 4 rfl rfl, by decide, by decide, by decide +kernel⟩, Or.inl (gw_2 126 rfl rfl)⟩, gw_2 127 rfl rfl, gw_2 128 rfl rfl, by decide, TX10, 4, rfl⟩
theorem lkX11_79 : gLkV RX11 79 MX7_add 3 7 := ⟨⟨⟨gw_2 133 rfl rfl, gw_1 3 rfl rfl, by decide, by decide, by decide +kernel⟩, Or.inl (gw_2 130 rfl rfl)⟩, gw_2 131 rfl rfl, gw_2 132 rfl rfl, by decide, TX7, 4, rfl⟩
theorem fX11_83 : gFl RX11 83 7 3 1 .int false := ⟨RX7, TX7, 4, tyX7, rfl, by decide, rfl, by decide, inGX7, tyX7_ok, nmX7, rfl, rfl, rfl, Or.inr ⟨"FoldWalks", gnw_1 47 rfl rfl⟩⟩
theorem lkX11_87 : gLkV RX11 87 MX7_has 1 7 := ⟨⟨⟨gw_2 142 rfl rfl, gw_1 3 rfl rfl, by decide, by decide, by decide +kernel⟩, Or.inl (gw_2 139 rfl rfl)⟩, gw_2 140 rfl rfl, gw_2 141 rfl rfl, by decide, TX7, 4, rfl⟩
theorem kcX11_91 : Cond.constant RX11 91 (-1000002) ∈ gw := gw_2 143 rfl rfl
theorem lkX11_92 : gLkV RX11 92 MX7_remove 1 7 := ⟨⟨⟨gw_2 147 rfl rfl, gw_1 3 rfl rfl, by decide, by decide, by decide +kernel⟩, Or.inl (gw_2 144 rfl rfl)⟩, gw_2 145 rfl rfl, gw_2 146 rfl rfl, by decide, TX7, 4, rfl⟩
theorem kcX11_96 : Cond.constantLong RX11 96 (2) ∈ gw := gw_2 153 rfl rfl
theorem kcX11_98 : Cond.constant RX11 98 (-1000004) ∈ gw := gw_2 154 rfl rfl
theorem fX11_99 : gFl RX11 99 7 0 0 (.array .int) true := ⟨RX7, TX7, 4, tyX7, rfl, by decide, rfl, by decide, inGX7, tyX7_ok, nmX7, rfl, rfl, rfl, Or.inr ⟨"FoldWalks", gnw_1 38 rfl rfl⟩⟩
theorem fX11_103 : gFl RX11 103 7 1 0 (.array .int) true := ⟨RX7, TX7, 4, tyX7, rfl, by decide, rfl, by decide, inGX7, tyX7_ok, nmX7, rfl, rfl, rfl, Or.inr ⟨"FoldWalks", gnw_1 41 rfl rfl⟩⟩
theorem fX11_106 : gFl RX11 106 7 2 0 (.array .int) true := ⟨RX7, TX7, 4, tyX7, rfl, by decide, rfl, by decide, inGX7, tyX7_ok, nmX7, rfl, rfl, rfl, Or.inr ⟨"FoldWalks", gnw_1 44 rfl rfl⟩⟩
theorem lkX11_109 : gLkS RX11 109 MX11_isPlace 2 := ⟨⟨⟨gw_2 161 rfl rfl, gw_1 1 rfl rfl, by decide, by decide, by decide +kernel⟩, Or.inl (gw_2 159 rfl rfl)⟩, gw_2 160 rfl rfl⟩
theorem kcX11_113 : Cond.constantLong RX11 113 (-1000001) ∈ gw := gw_2 164 rfl rfl
theorem fX11_26 : gFl RX11 26 11 2 0 (.object "FoldWalks$Mover") true := ⟨RX11, TX11, 5, tyX11, rfl, by decide, rfl, by decide, inGX11, tyX11_ok, nmX11, rfl, rfl, rfl, Or.inl (gw_2 64 rfl rfl)⟩
theorem fX11_115 : gFl RX11 115 2 1 0 (.object "FoldWalks$Spot") true := ⟨RX2, TX2, 2, tyX2, rfl, by decide, rfl, by decide, inGX2, tyX2_ok, nmX2, rfl, rfl, rfl, Or.inr ⟨"FoldWalks", gnw_2 4 rfl rfl⟩⟩
theorem lkX11_119 : gLkV RX11 119 MX5_look 3 5 := ⟨⟨⟨gw_2 168 rfl rfl, gw_1 10 rfl rfl, by decide, by decide, by decide +kernel⟩, Or.inl (gw_2 165 rfl rfl)⟩, gw_2 166 rfl rfl, gw_2 167 rfl rfl, by decide, TX5, 3, rfl⟩
theorem kcX11_125 : Cond.constantLong RX11 125 (1000000000000) ∈ gw := gw_2 178 rfl rfl
theorem fX11_127 : gFl RX11 127 5 0 2 .long false := ⟨RX5, TX5, 3, tyX5, rfl, by decide, rfl, by decide, inGX5, tyX5_ok, nmX5, rfl, rfl, rfl, Or.inr ⟨"FoldWalks", gnw_1 200 rfl rfl⟩⟩
theorem fX11_131 : gFl RX11 131 5 1 2 .long false := ⟨RX5, TX5, 3, tyX5, rfl, by decide, rfl, by decide, inGX5, tyX5_ok, nmX5, rfl, rfl, rfl, Or.inr ⟨"FoldWalks", gnw_1 204 rfl rfl⟩⟩
theorem fX11_134 : gFl RX11 134 5 2 2 .long false := ⟨RX5, TX5, 3, tyX5, rfl, by decide, rfl, by decide, inGX5, tyX5_ok, nmX5, rfl, rfl, rfl, Or.inr ⟨"FoldWalks", gnw_1 208 rfl rfl⟩⟩
theorem fX11_137 : gFl RX11 137 2 0 0 (.object "FoldWalks$Corrector") true := ⟨RX2, TX2, 2, tyX2, rfl, by decide, rfl, by decide, inGX2, tyX2_ok, nmX2, rfl, rfl, rfl, Or.inr ⟨"FoldWalks", gnw_2 2 rfl rfl⟩⟩
theorem lkX11_141 : gLkV RX11 141 MX0_correct 3 0 := ⟨⟨⟨gw_2 186 rfl rfl, gw_1 9 rfl rfl, by decide, by decide, by decide +kernel⟩, Or.inl (gw_2 183 rfl rfl)⟩, gw_2 184 rfl rfl, gw_2 185 rfl rfl, by decide, TX0, 4, rfl⟩
theorem fX11_147 : gFl RX11 147 0 1 1 .int false := ⟨RX0, TX0, 4, tyX0, rfl, by decide, rfl, by decide, inGX0, tyX0_ok, nmX0, rfl, rfl, rfl, Or.inr ⟨"FoldWalks", gnw_1 221 rfl rfl⟩⟩
theorem fX11_150 : gFl RX11 150 0 2 1 .int false := ⟨RX0, TX0, 4, tyX0, rfl, by decide, rfl, by decide, inGX0, tyX0_ok, nmX0, rfl, rfl, rfl, Or.inr ⟨"FoldWalks", gnw_1 225 rfl rfl⟩⟩
theorem fX11_153 : gFl RX11 153 0 3 1 .int false := ⟨RX0, TX0, 4, tyX0, rfl, by decide, rfl, by decide, inGX0, tyX0_ok, nmX0, rfl, rfl, rfl, Or.inr ⟨"FoldWalks", gnw_1 229 rfl rfl⟩⟩
theorem lkX11_156 : gLkS RX11 156 MX11_isSign 1 := ⟨⟨⟨gw_2 203 rfl rfl, gw_1 1 rfl rfl, by decide, by decide, by decide +kernel⟩, Or.inl (gw_2 201 rfl rfl)⟩, gw_2 202 rfl rfl⟩
theorem lkX11_159 : gLkV RX11 159 MX11_startWalk 3 11 := ⟨⟨⟨gw_2 207 rfl rfl, gw_1 1 rfl rfl, by decide, by decide, by decide +kernel⟩, Or.inl (gw_2 204 rfl rfl)⟩, gw_2 206 rfl rfl, gw_in 1 rfl rfl, by decide, TX11, 5, rfl⟩
theorem lkX11_163 : gLkV RX11 163 MX10_at 1 10 := ⟨⟨⟨gw_2 230 rfl rfl, gw_1 4 rfl rfl, by decide, by decide, by decide +kernel⟩, Or.inl (gw_2 227 rfl rfl)⟩, gw_2 228 rfl rfl, gw_2 229 rfl rfl, by decide, TX10, 4, rfl⟩
theorem lkX11_167 : gLkV RX11 167 MX9_has 1 9 := ⟨⟨⟨gw_2 234 rfl rfl, gw_1 5 rfl rfl, by decide, by decide, by decide +kernel⟩, Or.inl (gw_2 231 rfl rfl)⟩, gw_2 232 rfl rfl, gw_2 233 rfl rfl, by decide, TX9, 10, rfl⟩
theorem fX11_170 : gFl RX11 170 9 3 0 (.array .int) true := ⟨RX9, TX9, 10, tyX9, rfl, by decide, rfl, by decide, inGX9, tyX9_ok, nmX9, rfl, rfl, rfl, Or.inr ⟨"FoldWalks", gnw_1 80 rfl rfl⟩⟩
theorem lkX11_173 : gLkV RX11 173 MX2_leavesCrossing 4 2 := ⟨⟨⟨gw_2 238 rfl rfl, gw_1 8 rfl rfl, by decide, by decide, by decide +kernel⟩, Or.inl (gw_2 235 rfl rfl)⟩, gw_2 236 rfl rfl, gw_2 237 rfl rfl, by decide, TX2, 2, rfl⟩
theorem lkX11_177 : gLkV RX11 177 MX2_signBeside 3 2 := ⟨⟨⟨gw_3 18 rfl rfl, gw_1 8 rfl rfl, by decide, by decide, by decide +kernel⟩, Or.inl (gw_3 15 rfl rfl)⟩, gw_3 16 rfl rfl, gw_3 17 rfl rfl, by decide, TX2, 2, rfl⟩
theorem lkX11_181 : gLkV RX11 181 MX10_isFull 0 10 := ⟨⟨⟨gw_2 211 rfl rfl, gw_1 4 rfl rfl, by decide, by decide, by decide +kernel⟩, Or.inl (gw_2 208 rfl rfl)⟩, gw_2 209 rfl rfl, gw_2 210 rfl rfl, by decide, TX10, 4, rfl⟩
theorem fX11_182 : gFl RX11 182 10 3 1 .int false := ⟨RX10, TX10, 4, tyX10, rfl, by decide, rfl, by decide, inGX10, tyX10_ok, nmX10, rfl, rfl, rfl, Or.inr ⟨"FoldWalks", gnw_1 123 rfl rfl⟩⟩
theorem lkX11_183 : gLkV RX11 183 MX10_addOne 0 10 := ⟨⟨⟨gw_2 215 rfl rfl, gw_1 4 rfl rfl, by decide, by decide, by decide +kernel⟩, Or.inl (gw_2 212 rfl rfl)⟩, gw_2 213 rfl rfl, gw_2 214 rfl rfl, by decide, TX10, 4, rfl⟩
theorem fX11_187 : gFl RX11 187 6 2 0 (.object "FoldWalks$Settings") true := ⟨RX6, TX6, 3, tyX6, rfl, by decide, rfl, by decide, inGX6, tyX6_ok, nmX6, rfl, rfl, rfl, Or.inr ⟨"FoldWalks", gnw_1 152 rfl rfl⟩⟩
theorem lkX11_193 : gLkV RX11 193 MX4_at 1 4 := ⟨⟨⟨gw_2 190 rfl rfl, gw_1 6 rfl rfl, by decide, by decide, by decide +kernel⟩, Or.inl (gw_2 217 rfl rfl)⟩, gw_2 188 rfl rfl, gw_2 189 rfl rfl, by decide, TX4, 1, rfl⟩
theorem lkX11_195 : gLkV RX11 195 MX9_start 4 9 := ⟨⟨⟨gw_2 121 rfl rfl, gw_1 5 rfl rfl, by decide, by decide, by decide +kernel⟩, Or.inl (gw_2 218 rfl rfl)⟩, gw_2 119 rfl rfl, gw_2 120 rfl rfl, by decide, TX9, 10, rfl⟩
theorem lkX11_199 : gLkV RX11 199 MX9_addPlace 2 9 := ⟨⟨⟨gw_2 222 rfl rfl, gw_1 5 rfl rfl, by decide, by decide, by decide +kernel⟩, Or.inl (gw_2 219 rfl rfl)⟩, gw_2 220 rfl rfl, gw_2 221 rfl rfl, by decide, TX9, 10, rfl⟩
theorem kcX11_203 : Cond.constantLong RX11 203 (40) ∈ gw := gw_3 23 rfl rfl
theorem lkX11_205 : gLkV RX11 205 MX9_condition 0 9 := ⟨⟨⟨gw_3 27 rfl rfl, gw_1 5 rfl rfl, by decide, by decide, by decide +kernel⟩, Or.inl (gw_3 24 rfl rfl)⟩, gw_3 25 rfl rfl, gw_3 26 rfl rfl, by decide, TX9, 10, rfl⟩
theorem lkX11_209 : gLkV RX11 209 MX2_advance 2 2 := ⟨⟨⟨gw_3 31 rfl rfl, gw_1 8 rfl rfl, by decide, by decide, by decide +kernel⟩, Or.inl (gw_3 28 rfl rfl)⟩, gw_3 29 rfl rfl, gw_3 30 rfl rfl, by decide, TX2, 2, rfl⟩
theorem lkX11_213 : gLkV RX11 213 MX10_removeFamily 1 10 := ⟨⟨⟨gw_3 64 rfl rfl, gw_1 4 rfl rfl, by decide, by decide, by decide +kernel⟩, Or.inl (gw_3 61 rfl rfl)⟩, gw_3 62 rfl rfl, gw_3 63 rfl rfl, by decide, TX10, 4, rfl⟩
theorem lkX11_217 : gLkS RX11 217 MX4_allows 2 := ⟨⟨⟨gw_3 75 rfl rfl, gw_1 6 rfl rfl, by decide, by decide, by decide +kernel⟩, Or.inl (gw_3 73 rfl rfl)⟩, gw_3 74 rfl rfl⟩
theorem lkX11_221 : gLkV RX11 221 MX4_replace 2 4 := ⟨⟨⟨gw_3 84 rfl rfl, gw_1 6 rfl rfl, by decide, by decide, by decide +kernel⟩, Or.inl (gw_3 81 rfl rfl)⟩, gw_3 82 rfl rfl, gw_3 83 rfl rfl, by decide, TX4, 1, rfl⟩
theorem kcX11_225 : Cond.constantLong RX11 225 (8) ∈ gw := gw_3 90 rfl rfl
theorem fX11_227 : gFl RX11 227 9 4 1 .int false := ⟨RX9, TX9, 10, tyX9, rfl, by decide, rfl, by decide, inGX9, tyX9_ok, nmX9, rfl, rfl, rfl, Or.inr ⟨"FoldWalks", gnw_1 83 rfl rfl⟩⟩
theorem fX11_228 : gFl RX11 228 9 5 1 .int false := ⟨RX9, TX9, 10, tyX9, rfl, by decide, rfl, by decide, inGX9, tyX9_ok, nmX9, rfl, rfl, rfl, Or.inr ⟨"FoldWalks", gnw_1 86 rfl rfl⟩⟩
theorem fX11_231 : gFl RX11 231 9 6 1 .int false := ⟨RX9, TX9, 10, tyX9, rfl, by decide, rfl, by decide, inGX9, tyX9_ok, nmX9, rfl, rfl, rfl, Or.inr ⟨"FoldWalks", gnw_1 89 rfl rfl⟩⟩
theorem lkX11_234 : gLkV RX11 234 MX9_placesOfKind 1 9 := ⟨⟨⟨gw_3 94 rfl rfl, gw_1 5 rfl rfl, by decide, by decide, by decide +kernel⟩, Or.inl (gw_3 91 rfl rfl)⟩, gw_3 92 rfl rfl, gw_3 93 rfl rfl, by decide, TX9, 10, rfl⟩
theorem fX11_237 : gFl RX11 237 9 8 1 .int false := ⟨RX9, TX9, 10, tyX9, rfl, by decide, rfl, by decide, inGX9, tyX9_ok, nmX9, rfl, rfl, rfl, Or.inr ⟨"FoldWalks", gnw_1 94 rfl rfl⟩⟩
theorem fX11_240 : gFl RX11 240 9 9 1 .int false := ⟨RX9, TX9, 10, tyX9, rfl, by decide, rfl, by decide, inGX9, tyX9_ok, nmX9, rfl, rfl, rfl, Or.inr ⟨"FoldWalks", gnw_1 96 rfl rfl⟩⟩
theorem lkX11_243 : gLkV RX11 243 MX10_markFamily 1 10 := ⟨⟨⟨gw_3 68 rfl rfl, gw_1 4 rfl rfl, by decide, by decide, by decide +kernel⟩, Or.inl (gw_3 95 rfl rfl)⟩, gw_3 66 rfl rfl, gw_3 67 rfl rfl, by decide, TX10, 4, rfl⟩
theorem fX11_246 : gFl RX11 246 9 0 0 (.array .int) true := ⟨RX9, TX9, 10, tyX9, rfl, by decide, rfl, by decide, inGX9, tyX9_ok, nmX9, rfl, rfl, rfl, Or.inr ⟨"FoldWalks", gnw_1 73 rfl rfl⟩⟩
theorem fX11_249 : gFl RX11 249 9 1 0 (.array .int) true := ⟨RX9, TX9, 10, tyX9, rfl, by decide, rfl, by decide, inGX9, tyX9_ok, nmX9, rfl, rfl, rfl, Or.inr ⟨"FoldWalks", gnw_1 76 rfl rfl⟩⟩
theorem fX11_252 : gFl RX11 252 9 2 0 (.array .int) true := ⟨RX9, TX9, 10, tyX9, rfl, by decide, rfl, by decide, inGX9, tyX9_ok, nmX9, rfl, rfl, rfl, Or.inr ⟨"FoldWalks", gnw_1 78 rfl rfl⟩⟩
theorem lkX11_254 : gLkV RX11 254 MX10_places 0 10 := ⟨⟨⟨gw_3 107 rfl rfl, gw_1 4 rfl rfl, by decide, by decide, by decide +kernel⟩, Or.inl (gw_3 104 rfl rfl)⟩, gw_3 105 rfl rfl, gw_3 106 rfl rfl, by decide, TX10, 4, rfl⟩
theorem lkX11_257 : gLkV RX11 257 MX10_placesOfKind 1 10 := ⟨⟨⟨gw_3 111 rfl rfl, gw_1 4 rfl rfl, by decide, by decide, by decide +kernel⟩, Or.inl (gw_3 108 rfl rfl)⟩, gw_3 109 rfl rfl, gw_3 110 rfl rfl, by decide, TX10, 4, rfl⟩
theorem fX11_258 : gFl RX11 258 1 2 1 .int false := ⟨RX1, TX1, 3, tyX1, rfl, by decide, rfl, by decide, inGX1, tyX1_ok, nmX1, rfl, rfl, rfl, Or.inr ⟨"FoldWalks", gnw_1 172 rfl rfl⟩⟩
theorem fX11_33 : gFl RX11 33 11 3 0 (.object "FoldWalks$Text") true := ⟨RX11, TX11, 5, tyX11, rfl, by decide, rfl, by decide, inGX11, tyX11_ok, nmX11, rfl, rfl, rfl, Or.inl (gw_2 65 rfl rfl)⟩
theorem fX11_259 : gFl RX11 259 8 1 1 .int false := ⟨RX8, TX8, 2, tyX8, rfl, by decide, rfl, by decide, inGX8, tyX8_ok, nmX8, rfl, rfl, rfl, Or.inr ⟨"FoldWalks", gnw_2 20 rfl rfl⟩⟩
theorem kcX11_262 : Cond.constantLong RX11 262 (-1024) ∈ gw := gw_2 162 rfl rfl
theorem kcX11_264 : Cond.constantLong RX11 264 (1024) ∈ gw := gw_2 163 rfl rfl
theorem lkX11_266 : gLkV RX11 266 MX7_coefficient 2 7 := ⟨⟨⟨gw_3 120 rfl rfl, gw_1 3 rfl rfl, by decide, by decide, by decide +kernel⟩, Or.inl (gw_3 117 rfl rfl)⟩, gw_3 118 rfl rfl, gw_3 119 rfl rfl, by decide, TX7, 4, rfl⟩
theorem lkX11_270 : gLkV RX11 270 MX9_lengthInParts 0 9 := ⟨⟨⟨gw_3 129 rfl rfl, gw_1 5 rfl rfl, by decide, by decide, by decide +kernel⟩, Or.inl (gw_3 126 rfl rfl)⟩, gw_3 127 rfl rfl, gw_3 128 rfl rfl, by decide, TX9, 10, rfl⟩
theorem lkX11_273 : gLkS RX11 273 MX11_bitsOfParts 1 := ⟨⟨⟨gw_3 135 rfl rfl, gw_1 1 rfl rfl, by decide, by decide, by decide +kernel⟩, Or.inl (gw_3 133 rfl rfl)⟩, gw_3 134 rfl rfl⟩
theorem lkX11_276 : gLkV RX11 276 MX9_nearestTo 2 9 := ⟨⟨⟨gw_3 144 rfl rfl, gw_1 5 rfl rfl, by decide, by decide, by decide +kernel⟩, Or.inl (gw_3 141 rfl rfl)⟩, gw_3 142 rfl rfl, gw_3 143 rfl rfl, by decide, TX9, 10, rfl⟩
theorem lkX11_280 : gLkV RX11 280 MX1_restore 1 1 := ⟨⟨⟨gw_3 156 rfl rfl, gw_1 7 rfl rfl, by decide, by decide, by decide +kernel⟩, Or.inl (gw_3 153 rfl rfl)⟩, gw_3 154 rfl rfl, gw_3 155 rfl rfl, by decide, TX1, 3, rfl⟩
theorem kcX11_283 : Cond.constantLong RX11 283 (32) ∈ gw := gw_3 161 rfl rfl
theorem kcX11_285 : Cond.constantLong RX11 285 (126) ∈ gw := gw_3 162 rfl rfl
theorem lkX11_287 : gLkV RX11 287 MX8_isFull 0 8 := ⟨⟨⟨gw_3 166 rfl rfl, gw_1 11 rfl rfl, by decide, by decide, by decide +kernel⟩, Or.inl (gw_3 163 rfl rfl)⟩, gw_3 164 rfl rfl, gw_3 165 rfl rfl, by decide, TX8, 2, rfl⟩
theorem lkX11_288 : gLkV RX11 288 MX8_append 1 8 := ⟨⟨⟨gw_3 170 rfl rfl, gw_1 11 rfl rfl, by decide, by decide, by decide +kernel⟩, Or.inl (gw_3 167 rfl rfl)⟩, gw_3 168 rfl rfl, gw_3 169 rfl rfl, by decide, TX8, 2, rfl⟩
theorem fX11_40 : gFl RX11 40 11 4 0 (.object "FoldWalks$Reader") true := ⟨RX11, TX11, 5, tyX11, rfl, by decide, rfl, by decide, inGX11, tyX11_ok, nmX11, rfl, rfl, rfl, Or.inl (gw_2 66 rfl rfl)⟩
theorem lkX11_291 : gLkV RX11 291 MX3_scan 1 3 := ⟨⟨⟨gw_3 183 rfl rfl, gw_1 12 rfl rfl, by decide, by decide, by decide +kernel⟩, Or.inl (gw_3 180 rfl rfl)⟩, gw_3 181 rfl rfl, gw_3 182 rfl rfl, by decide, TX3, 8, rfl⟩
theorem fX11_295 : gFl RX11 295 3 2 1 .int false := ⟨RX3, TX3, 8, tyX3, rfl, by decide, rfl, by decide, inGX3, tyX3_ok, nmX3, rfl, rfl, rfl, Or.inr ⟨"FoldWalks", gnw_2 39 rfl rfl⟩⟩
theorem fX11_298 : gFl RX11 298 3 1 1 .int false := ⟨RX3, TX3, 8, tyX3, rfl, by decide, rfl, by decide, inGX3, tyX3_ok, nmX3, rfl, rfl, rfl, Or.inr ⟨"FoldWalks", gnw_2 37 rfl rfl⟩⟩
theorem fX11_301 : gFl RX11 301 3 0 0 (.object "FoldWalks$Terms") true := ⟨RX3, TX3, 8, tyX3, rfl, by decide, rfl, by decide, inGX3, tyX3_ok, nmX3, rfl, rfl, rfl, Or.inr ⟨"FoldWalks", gnw_2 35 rfl rfl⟩⟩
theorem lkX11_302 : gLkV RX11 302 MX7_copyFrom 1 7 := ⟨⟨⟨gw_2 109 rfl rfl, gw_1 3 rfl rfl, by decide, by decide, by decide +kernel⟩, Or.inl (gw_3 218 rfl rfl)⟩, gw_2 107 rfl rfl, gw_2 108 rfl rfl, by decide, TX7, 4, rfl⟩
theorem kcX11_306 : Cond.constantLong RX11 306 (1073741824) ∈ gw := gw_3 11 rfl rfl
theorem kcX11_308 : Cond.constant RX11 308 (8388607) ∈ gw := gw_3 136 rfl rfl
theorem oiX12_1 : Cond.methodLink RX12 1 objectInit ∈ gw := gw_3 224 rfl rfl
theorem ffX12_7 : gFf RX12 7 12 0 (.array .int) := ⟨TX12, 12, tyX12, rfl, by decide, rfl, by decide, inGX12, tyX12_ok, nmX12, rfl, rfl, rfl, rfl, gw_3 225 rfl rfl⟩
theorem ffX12_13 : gFf RX12 13 12 1 (.array .int) := ⟨TX12, 12, tyX12, rfl, by decide, rfl, by decide, inGX12, tyX12_ok, nmX12, rfl, rfl, rfl, rfl, gw_3 226 rfl rfl⟩
theorem ffX12_16 : gFf RX12 16 12 2 (.array .int) := ⟨TX12, 12, tyX12, rfl, by decide, rfl, by decide, inGX12, tyX12_ok, nmX12, rfl, rfl, rfl, rfl, gw_3 227 rfl rfl⟩
theorem ffX12_19 : gFf RX12 19 12 4 (.array .int) := ⟨TX12, 12, tyX12, rfl, by decide, rfl, by decide, inGX12, tyX12_ok, nmX12, rfl, rfl, rfl, rfl, gw_3 229 rfl rfl⟩
theorem ffX12_22 : gFf RX12 22 12 9 (.array .int) := ⟨TX12, 12, tyX12, rfl, by decide, rfl, by decide, inGX12, tyX12_ok, nmX12, rfl, rfl, rfl, rfl, gw_3 234 rfl rfl⟩
theorem fX12_7 : gFl RX12 7 12 0 0 (.array .int) true := ⟨RX12, TX12, 12, tyX12, rfl, by decide, rfl, by decide, inGX12, tyX12_ok, nmX12, rfl, rfl, rfl, Or.inl (gw_3 225 rfl rfl)⟩
theorem lkX12_25 : gLkS RX12 25 MX12_in 3 := ⟨⟨⟨gw_4 32 rfl rfl, gw_1 13 rfl rfl, by decide, by decide, by decide +kernel⟩, Or.inl (gw_4 30 rfl rfl)⟩, gw_4 31 rfl rfl⟩
theorem fX12_13 : gFl RX12 13 12 1 0 (.array .int) true := ⟨RX12, TX12, 12, tyX12, rfl, by decide, rfl, by decide, inGX12, tyX12_ok, nmX12, rfl, rfl, rfl, Or.inl (gw_3 226 rfl rfl)⟩
theorem kcX12_29 : Cond.constant RX12 29 (-1000001) ∈ gw := gw_4 38 rfl rfl
theorem lkX12_30 : gLkV RX12 30 MX12_returns 0 12 := ⟨⟨⟨gw_4 46 rfl rfl, gw_1 13 rfl rfl, by decide, by decide, by decide +kernel⟩, Or.inl (gw_4 43 rfl rfl)⟩, gw_4 45 rfl rfl, gw_in 14 rfl rfl, by decide, TX12, 12, rfl⟩
theorem fX12_33 : gFl RX12 33 12 3 1 .int false := ⟨RX12, TX12, 12, tyX12, rfl, by decide, rfl, by decide, inGX12, tyX12_ok, nmX12, rfl, rfl, rfl, Or.inl (gw_3 228 rfl rfl)⟩
theorem fX12_16 : gFl RX12 16 12 2 0 (.array .int) true := ⟨RX12, TX12, 12, tyX12, rfl, by decide, rfl, by decide, inGX12, tyX12_ok, nmX12, rfl, rfl, rfl, Or.inl (gw_3 227 rfl rfl)⟩
theorem lkX12_37 : gLkV RX12 37 MX12_termPart 2 12 := ⟨⟨⟨gw_4 59 rfl rfl, gw_1 13 rfl rfl, by decide, by decide, by decide +kernel⟩, Or.inl (gw_4 56 rfl rfl)⟩, gw_4 58 rfl rfl, gw_in 16 rfl rfl, by decide, TX12, 12, rfl⟩
theorem kcX12_41 : Cond.constantLong RX12 41 (256) ∈ gw := gw_4 88 rfl rfl
theorem lkX12_43 : gLkS RX12 43 MX12_power 2 := ⟨⟨⟨gw_4 91 rfl rfl, gw_1 13 rfl rfl, by decide, by decide, by decide +kernel⟩, Or.inl (gw_4 89 rfl rfl)⟩, gw_4 90 rfl rfl⟩
theorem lkX12_47 : gLkV RX12 47 MX12_given 4 12 := ⟨⟨⟨gw_4 87 rfl rfl, gw_1 13 rfl rfl, by decide, by decide, by decide +kernel⟩, Or.inl (gw_4 84 rfl rfl)⟩, gw_4 86 rfl rfl, gw_in 20 rfl rfl, by decide, TX12, 12, rfl⟩
theorem kcX12_51 : Cond.constantLong RX12 51 (1073741824) ∈ gw := gw_4 130 rfl rfl
theorem kcX12_53 : Cond.constantLong RX12 53 (2) ∈ gw := gw_4 131 rfl rfl
theorem fX12_55 : gFl RX12 55 12 6 1 .int false := ⟨RX12, TX12, 12, tyX12, rfl, by decide, rfl, by decide, inGX12, tyX12_ok, nmX12, rfl, rfl, rfl, Or.inl (gw_3 231 rfl rfl)⟩
theorem fX12_58 : gFl RX12 58 12 7 1 .int false := ⟨RX12, TX12, 12, tyX12, rfl, by decide, rfl, by decide, inGX12, tyX12_ok, nmX12, rfl, rfl, rfl, Or.inl (gw_3 232 rfl rfl)⟩
theorem lkX12_61 : gLkV RX12 61 MX12_sum 3 12 := ⟨⟨⟨gw_4 83 rfl rfl, gw_1 13 rfl rfl, by decide, by decide, by decide +kernel⟩, Or.inl (gw_4 80 rfl rfl)⟩, gw_4 82 rfl rfl, gw_in 19 rfl rfl, by decide, TX12, 12, rfl⟩
theorem fX12_65 : gFl RX12 65 12 8 1 .int false := ⟨RX12, TX12, 12, tyX12, rfl, by decide, rfl, by decide, inGX12, tyX12_ok, nmX12, rfl, rfl, rfl, Or.inl (gw_3 233 rfl rfl)⟩
theorem kcX12_68 : Cond.constantLong RX12 68 (-1024) ∈ gw := gw_4 74 rfl rfl
theorem kcX12_70 : Cond.constantLong RX12 70 (1024) ∈ gw := gw_4 75 rfl rfl
theorem lkX12_72 : gLkV RX12 72 MX12_goesRound 0 12 := ⟨⟨⟨gw_4 79 rfl rfl, gw_1 13 rfl rfl, by decide, by decide, by decide +kernel⟩, Or.inl (gw_4 76 rfl rfl)⟩, gw_4 78 rfl rfl, gw_in 18 rfl rfl, by decide, TX12, 12, rfl⟩
theorem lkX12_76 : gLkS RX12 76 MX12_walkAt 1 := ⟨⟨⟨gw_4 102 rfl rfl, gw_1 13 rfl rfl, by decide, by decide, by decide +kernel⟩, Or.inl (gw_4 100 rfl rfl)⟩, gw_4 101 rfl rfl⟩
theorem lkX12_80 : gLkV RX12 80 MX12_places 1 12 := ⟨⟨⟨gw_4 110 rfl rfl, gw_1 13 rfl rfl, by decide, by decide, by decide +kernel⟩, Or.inl (gw_4 107 rfl rfl)⟩, gw_4 109 rfl rfl, gw_in 24 rfl rfl, by decide, TX12, 12, rfl⟩
theorem kcX12_83 : Cond.constant RX12 83 (-1000003) ∈ gw := gw_4 37 rfl rfl
theorem lkX12_84 : gLkV RX12 84 MX12_puts 3 12 := ⟨⟨⟨gw_4 99 rfl rfl, gw_1 13 rfl rfl, by decide, by decide, by decide +kernel⟩, Or.inl (gw_4 96 rfl rfl)⟩, gw_4 98 rfl rfl, gw_in 22 rfl rfl, by decide, TX12, 12, rfl⟩
theorem lkX12_88 : gLkV RX12 88 MX12_joins 2 12 := ⟨⟨⟨gw_4 106 rfl rfl, gw_1 13 rfl rfl, by decide, by decide, by decide +kernel⟩, Or.inl (gw_4 103 rfl rfl)⟩, gw_4 105 rfl rfl, gw_in 23 rfl rfl, by decide, TX12, 12, rfl⟩
theorem lkX12_92 : gLkV RX12 92 MX12_walkPart 2 12 := ⟨⟨⟨gw_4 147 rfl rfl, gw_1 13 rfl rfl, by decide, by decide, by decide +kernel⟩, Or.inl (gw_4 144 rfl rfl)⟩, gw_4 146 rfl rfl, gw_in 30 rfl rfl, by decide, TX12, 12, rfl⟩
theorem lkX12_95 : gLkS RX12 95 MX12_root 1 := ⟨⟨⟨gw_4 129 rfl rfl, gw_1 13 rfl rfl, by decide, by decide, by decide +kernel⟩, Or.inl (gw_4 127 rfl rfl)⟩, gw_4 128 rfl rfl⟩
theorem lkX12_99 : gLkV RX12 99 MX12_corrects 2 12 := ⟨⟨⟨gw_4 73 rfl rfl, gw_1 13 rfl rfl, by decide, by decide, by decide +kernel⟩, Or.inl (gw_4 70 rfl rfl)⟩, gw_4 72 rfl rfl, gw_in 17 rfl rfl, by decide, TX12, 12, rfl⟩
theorem lkX12_103 : gLkV RX12 103 MX12_placePart 3 12 := ⟨⟨⟨gw_4 126 rfl rfl, gw_1 13 rfl rfl, by decide, by decide, by decide +kernel⟩, Or.inl (gw_4 123 rfl rfl)⟩, gw_4 125 rfl rfl, gw_in 27 rfl rfl, by decide, TX12, 12, rfl⟩
theorem lkX12_107 : gLkV RX12 107 MX12_tries 3 12 := ⟨⟨⟨gw_4 155 rfl rfl, gw_1 13 rfl rfl, by decide, by decide, by decide +kernel⟩, Or.inl (gw_4 152 rfl rfl)⟩, gw_4 154 rfl rfl, gw_in 32 rfl rfl, by decide, TX12, 12, rfl⟩
theorem lkX12_110 : gLkV RX12 110 MX12_arrives 3 12 := ⟨⟨⟨gw_4 159 rfl rfl, gw_1 13 rfl rfl, by decide, by decide, by decide +kernel⟩, Or.inl (gw_4 156 rfl rfl)⟩, gw_4 158 rfl rfl, gw_in 33 rfl rfl, by decide, TX12, 12, rfl⟩
theorem lkX12_113 : gLkV RX12 113 MX12_stateOf 1 12 := ⟨⟨⟨gw_4 143 rfl rfl, gw_1 13 rfl rfl, by decide, by decide, by decide +kernel⟩, Or.inl (gw_4 140 rfl rfl)⟩, gw_4 142 rfl rfl, gw_in 29 rfl rfl, by decide, TX12, 12, rfl⟩
theorem kcX12_116 : Cond.constant RX12 116 (-1000002) ∈ gw := gw_4 55 rfl rfl
theorem lkX12_117 : gLkV RX12 117 MX12_goes 1 12 := ⟨⟨⟨gw_4 151 rfl rfl, gw_1 13 rfl rfl, by decide, by decide, by decide +kernel⟩, Or.inl (gw_4 148 rfl rfl)⟩, gw_4 150 rfl rfl, gw_in 31 rfl rfl, by decide, TX12, 12, rfl⟩
theorem lkX12_121 : gLkV RX12 121 MX12_opens 3 12 := ⟨⟨⟨gw_4 95 rfl rfl, gw_1 13 rfl rfl, by decide, by decide, by decide +kernel⟩, Or.inl (gw_4 92 rfl rfl)⟩, gw_4 94 rfl rfl, gw_in 21 rfl rfl, by decide, TX12, 12, rfl⟩
theorem fX12_22 : gFl RX12 22 12 9 0 (.array .int) true := ⟨RX12, TX12, 12, tyX12, rfl, by decide, rfl, by decide, inGX12, tyX12_ok, nmX12, rfl, rfl, rfl, Or.inl (gw_3 234 rfl rfl)⟩
theorem lkX12_124 : gLkV RX12 124 MX12_isFrom 2 12 := ⟨⟨⟨gw_4 171 rfl rfl, gw_1 13 rfl rfl, by decide, by decide, by decide +kernel⟩, Or.inl (gw_4 168 rfl rfl)⟩, gw_4 170 rfl rfl, gw_in 35 rfl rfl, by decide, TX12, 12, rfl⟩
theorem lkX12_128 : gLkV RX12 128 MX12_begins 0 12 := ⟨⟨⟨gw_4 29 rfl rfl, gw_1 13 rfl rfl, by decide, by decide, by decide +kernel⟩, Or.inl (gw_4 26 rfl rfl)⟩, gw_4 28 rfl rfl, gw_in 11 rfl rfl, by decide, TX12, 12, rfl⟩
theorem lkX12_131 : gLkV RX12 131 MX12_adds 3 12 := ⟨⟨⟨gw_4 36 rfl rfl, gw_1 13 rfl rfl, by decide, by decide, by decide +kernel⟩, Or.inl (gw_4 33 rfl rfl)⟩, gw_4 35 rfl rfl, gw_in 12 rfl rfl, by decide, TX12, 12, rfl⟩
theorem lkX12_134 : gLkV RX12 134 MX12_acted 1 12 := ⟨⟨⟨gw_4 42 rfl rfl, gw_1 13 rfl rfl, by decide, by decide, by decide +kernel⟩, Or.inl (gw_4 39 rfl rfl)⟩, gw_4 41 rfl rfl, gw_in 13 rfl rfl, by decide, TX12, 12, rfl⟩
theorem lkX12_137 : gLkV RX12 137 MX12_removes 1 12 := ⟨⟨⟨gw_4 54 rfl rfl, gw_1 13 rfl rfl, by decide, by decide, by decide +kernel⟩, Or.inl (gw_4 51 rfl rfl)⟩, gw_4 53 rfl rfl, gw_in 15 rfl rfl, by decide, TX12, 12, rfl⟩
theorem lkX12_140 : gLkS RX12 140 MX12_isIn 1 := ⟨⟨⟨gw_4 66 rfl rfl, gw_1 13 rfl rfl, by decide, by decide, by decide +kernel⟩, Or.inl (gw_4 64 rfl rfl)⟩, gw_4 65 rfl rfl⟩
theorem lkX12_143 : gLkS RX12 143 MX12_isSide 1 := ⟨⟨⟨gw_4 69 rfl rfl, gw_1 13 rfl rfl, by decide, by decide, by decide +kernel⟩, Or.inl (gw_4 67 rfl rfl)⟩, gw_4 68 rfl rfl⟩
theorem lkX12_146 : gLkV RX12 146 MX12_isWalk 1 12 := ⟨⟨⟨gw_4 118 rfl rfl, gw_1 13 rfl rfl, by decide, by decide, by decide +kernel⟩, Or.inl (gw_4 115 rfl rfl)⟩, gw_4 117 rfl rfl, gw_in 25 rfl rfl, by decide, TX12, 12, rfl⟩
theorem lkX12_149 : gLkV RX12 149 MX12_branches 3 12 := ⟨⟨⟨gw_4 122 rfl rfl, gw_1 13 rfl rfl, by decide, by decide, by decide +kernel⟩, Or.inl (gw_4 119 rfl rfl)⟩, gw_4 121 rfl rfl, gw_in 26 rfl rfl, by decide, TX12, 12, rfl⟩
theorem lkX12_152 : gLkV RX12 152 MX12_walks 2 12 := ⟨⟨⟨gw_4 139 rfl rfl, gw_1 13 rfl rfl, by decide, by decide, by decide +kernel⟩, Or.inl (gw_4 136 rfl rfl)⟩, gw_4 138 rfl rfl, gw_in 28 rfl rfl, by decide, TX12, 12, rfl⟩
theorem lkX12_155 : gLkV RX12 155 MX12_drops 1 12 := ⟨⟨⟨gw_4 167 rfl rfl, gw_1 13 rfl rfl, by decide, by decide, by decide +kernel⟩, Or.inl (gw_4 164 rfl rfl)⟩, gw_4 166 rfl rfl, gw_in 34 rfl rfl, by decide, TX12, 12, rfl⟩
theorem lkX12_158 : gLkV RX12 158 MX12_sets 2 12 := ⟨⟨⟨gw_4 179 rfl rfl, gw_1 13 rfl rfl, by decide, by decide, by decide +kernel⟩, Or.inl (gw_4 176 rfl rfl)⟩, gw_4 178 rfl rfl, gw_in 36 rfl rfl, by decide, TX12, 12, rfl⟩
theorem kcX12_161 : Cond.constant RX12 161 (-1000004) ∈ gw := gw_4 184 rfl rfl
theorem kcX12_162 : Cond.constantLong RX12 162 (1000000000000) ∈ gw := gw_4 189 rfl rfl
theorem kcX12_164 : Cond.constantLong RX12 164 (-1000001) ∈ gw := gw_4 190 rfl rfl
theorem lkX12_166 : gLkV RX12 166 MX12_ofKind 2 12 := ⟨⟨⟨gw_4 202 rfl rfl, gw_1 13 rfl rfl, by decide, by decide, by decide +kernel⟩, Or.inl (gw_4 199 rfl rfl)⟩, gw_4 201 rfl rfl, gw_in 37 rfl rfl, by decide, TX12, 12, rfl⟩
theorem lkX12_169 : gLkV RX12 169 MX12_begunFrom 1 12 := ⟨⟨⟨gw_4 206 rfl rfl, gw_1 13 rfl rfl, by decide, by decide, by decide +kernel⟩, Or.inl (gw_4 203 rfl rfl)⟩, gw_4 205 rfl rfl, gw_in 38 rfl rfl, by decide, TX12, 12, rfl⟩
theorem lkX12_172 : gLkV RX12 172 MX12_ofWalks 1 12 := ⟨⟨⟨gw_4 218 rfl rfl, gw_1 13 rfl rfl, by decide, by decide, by decide +kernel⟩, Or.inl (gw_4 215 rfl rfl)⟩, gw_4 217 rfl rfl, gw_in 39 rfl rfl, by decide, TX12, 12, rfl⟩
theorem fX12_175 : gFl RX12 175 12 5 1 .int false := ⟨RX12, TX12, 12, tyX12, rfl, by decide, rfl, by decide, inGX12, tyX12_ok, nmX12, rfl, rfl, rfl, Or.inl (gw_3 230 rfl rfl)⟩
theorem lkX12_178 : gLkS RX12 178 MX12_square 1 := ⟨⟨⟨gw_4 229 rfl rfl, gw_1 13 rfl rfl, by decide, by decide, by decide +kernel⟩, Or.inl (gw_4 227 rfl rfl)⟩, gw_4 228 rfl rfl⟩
theorem kcX12_181 : Cond.constantFloat RX12 181 (1132462080) ∈ gw := gw_4 230 rfl rfl
theorem lkX12_182 : gLkS RX12 182 MJxf58ca_floatToIntBits_5c35a 1 := ⟨⟨⟨gw_4 233 rfl rfl, gw_1 15 rfl rfl, by decide, by decide, by decide +kernel⟩, Or.inl (gw_4 231 rfl rfl)⟩, gw_4 232 rfl rfl⟩
theorem fX12_19 : gFl RX12 19 12 4 0 (.array .int) true := ⟨RX12, TX12, 12, tyX12, rfl, by decide, rfl, by decide, inGX12, tyX12_ok, nmX12, rfl, rfl, rfl, Or.inl (gw_3 229 rfl rfl)⟩
theorem fX12_188 : gFl RX12 188 12 10 1 .int false := ⟨RX12, TX12, 12, tyX12, rfl, by decide, rfl, by decide, inGX12, tyX12_ok, nmX12, rfl, rfl, rfl, Or.inl (gw_3 235 rfl rfl)⟩
theorem lkX12_191 : gLkV RX12 191 MX12_sees 2 12 := ⟨⟨⟨gw_5 28 rfl rfl, gw_1 13 rfl rfl, by decide, by decide, by decide +kernel⟩, Or.inl (gw_5 25 rfl rfl)⟩, gw_5 27 rfl rfl, gw_in 41 rfl rfl, by decide, TX12, 12, rfl⟩
theorem fX12_194 : gFl RX12 194 12 11 1 .int false := ⟨RX12, TX12, 12, tyX12, rfl, by decide, rfl, by decide, inGX12, tyX12_ok, nmX12, rfl, rfl, rfl, Or.inl (gw_3 236 rfl rfl)⟩
theorem lkX12_197 : gLkV RX12 197 MX12_readsTerm 1 12 := ⟨⟨⟨gw_5 32 rfl rfl, gw_1 13 rfl rfl, by decide, by decide, by decide +kernel⟩, Or.inl (gw_5 29 rfl rfl)⟩, gw_5 31 rfl rfl, gw_in 42 rfl rfl, by decide, TX12, 12, rfl⟩
theorem lkX12_200 : gLkV RX12 200 MX12_reads 0 12 := ⟨⟨⟨gw_5 24 rfl rfl, gw_1 13 rfl rfl, by decide, by decide, by decide +kernel⟩, Or.inl (gw_5 21 rfl rfl)⟩, gw_5 23 rfl rfl, gw_in 40 rfl rfl, by decide, TX12, 12, rfl⟩
theorem lkJxf58ca_59 : gLkS RJxf58ca 59 MJxf58ca_isNaN_12338 1 := ⟨⟨⟨gw_4 236 rfl rfl, gw_1 15 rfl rfl, by decide, by decide, by decide +kernel⟩, Or.inl (gw_4 234 rfl rfl)⟩, gw_4 235 rfl rfl⟩
theorem mlJxf58ca_74 : Cond.methodLink RJxf58ca 74 ⟨"java/lang/Float", "floatToRawIntBits", "(F)I"⟩ ∈ gw := gw_4 237 rfl rfl
theorem kcJxf58ca_77 : Cond.constant RJxf58ca 77 (2143289344) ∈ gw := gw_5 0 rfl rfl
theorem clL_7 : Cond.classLink RL 7 RX11 ∈ gw := gw_1 16 rfl rfl
theorem lkL_9 : gLkI RL 9 MX11_init 0 := ⟨⟨⟨gw_1 20 rfl rfl, gw_1 1 rfl rfl, by decide, by decide, by decide +kernel⟩, Or.inl (gw_1 18 rfl rfl)⟩, gw_1 19 rfl rfl, rfl, rfl⟩
theorem clL_10 : Cond.classLink RL 10 RX12 ∈ gw := gw_3 219 rfl rfl
theorem lkL_12 : gLkI RL 12 MX12_init 0 := ⟨⟨⟨gw_3 223 rfl rfl, gw_1 13 rfl rfl, by decide, by decide, by decide +kernel⟩, Or.inl (gw_3 221 rfl rfl)⟩, gw_3 222 rfl rfl, rfl, rfl⟩
theorem lkL_13 : gLkV RL 13 MX11_term 3 11 := ⟨⟨⟨gw_2 81 rfl rfl, gw_1 1 rfl rfl, by decide, by decide, by decide +kernel⟩, Or.inl (gw_2 78 rfl rfl)⟩, gw_2 79 rfl rfl, gw_2 80 rfl rfl, by decide, TX11, 5, rfl⟩
theorem lkL_17 : gLkV RL 17 MX12_term 3 12 := ⟨⟨⟨gw_4 25 rfl rfl, gw_1 13 rfl rfl, by decide, by decide, by decide +kernel⟩, Or.inl (gw_4 22 rfl rfl)⟩, gw_4 23 rfl rfl, gw_4 24 rfl rfl, by decide, TX12, 12, rfl⟩
theorem lkL_18 : gLkV RL 18 MX11_dropTerm 1 11 := ⟨⟨⟨gw_2 138 rfl rfl, gw_1 1 rfl rfl, by decide, by decide, by decide +kernel⟩, Or.inl (gw_2 135 rfl rfl)⟩, gw_2 136 rfl rfl, gw_2 137 rfl rfl, by decide, TX11, 5, rfl⟩
theorem lkL_22 : gLkV RL 22 MX12_dropTerm 1 12 := ⟨⟨⟨gw_4 50 rfl rfl, gw_1 13 rfl rfl, by decide, by decide, by decide +kernel⟩, Or.inl (gw_4 47 rfl rfl)⟩, gw_4 48 rfl rfl, gw_4 49 rfl rfl, by decide, TX12, 12, rfl⟩
theorem lkL_23 : gLkV RL 23 MX11_termOf 2 11 := ⟨⟨⟨gw_2 152 rfl rfl, gw_1 1 rfl rfl, by decide, by decide, by decide +kernel⟩, Or.inl (gw_2 149 rfl rfl)⟩, gw_2 150 rfl rfl, gw_2 151 rfl rfl, by decide, TX11, 5, rfl⟩
theorem lkL_27 : gLkV RL 27 MX12_termOf 2 12 := ⟨⟨⟨gw_4 183 rfl rfl, gw_1 13 rfl rfl, by decide, by decide, by decide +kernel⟩, Or.inl (gw_4 180 rfl rfl)⟩, gw_4 181 rfl rfl, gw_4 182 rfl rfl, by decide, TX12, 12, rfl⟩
theorem lkL_28 : gLkV RL 28 MX11_value 3 11 := ⟨⟨⟨gw_2 158 rfl rfl, gw_1 1 rfl rfl, by decide, by decide, by decide +kernel⟩, Or.inl (gw_2 155 rfl rfl)⟩, gw_2 156 rfl rfl, gw_2 157 rfl rfl, by decide, TX11, 5, rfl⟩
theorem lkL_32 : gLkV RL 32 MX12_value 3 12 := ⟨⟨⟨gw_4 188 rfl rfl, gw_1 13 rfl rfl, by decide, by decide, by decide +kernel⟩, Or.inl (gw_4 185 rfl rfl)⟩, gw_4 186 rfl rfl, gw_4 187 rfl rfl, by decide, TX12, 12, rfl⟩
theorem lkL_33 : gLkV RL 33 MX11_corrected 3 11 := ⟨⟨⟨gw_2 182 rfl rfl, gw_1 1 rfl rfl, by decide, by decide, by decide +kernel⟩, Or.inl (gw_2 179 rfl rfl)⟩, gw_2 180 rfl rfl, gw_2 181 rfl rfl, by decide, TX11, 5, rfl⟩
theorem lkL_36 : gLkV RL 36 MX12_corrected 3 12 := ⟨⟨⟨gw_4 194 rfl rfl, gw_1 13 rfl rfl, by decide, by decide, by decide +kernel⟩, Or.inl (gw_4 191 rfl rfl)⟩, gw_4 192 rfl rfl, gw_4 193 rfl rfl, by decide, TX12, 12, rfl⟩
theorem lkL_37 : gLkV RL 37 MX11_begin 3 11 := ⟨⟨⟨gw_2 200 rfl rfl, gw_1 1 rfl rfl, by decide, by decide, by decide +kernel⟩, Or.inl (gw_2 197 rfl rfl)⟩, gw_2 198 rfl rfl, gw_2 199 rfl rfl, by decide, TX11, 5, rfl⟩
theorem lkL_40 : gLkV RL 40 MX12_begin 3 12 := ⟨⟨⟨gw_4 63 rfl rfl, gw_1 13 rfl rfl, by decide, by decide, by decide +kernel⟩, Or.inl (gw_4 60 rfl rfl)⟩, gw_4 61 rfl rfl, gw_4 62 rfl rfl, by decide, TX12, 12, rfl⟩
theorem lkL_41 : gLkV RL 41 MX11_branch 3 11 := ⟨⟨⟨gw_2 226 rfl rfl, gw_1 1 rfl rfl, by decide, by decide, by decide +kernel⟩, Or.inl (gw_2 223 rfl rfl)⟩, gw_2 224 rfl rfl, gw_2 225 rfl rfl, by decide, TX11, 5, rfl⟩
theorem lkL_44 : gLkV RL 44 MX12_branch 3 12 := ⟨⟨⟨gw_4 114 rfl rfl, gw_1 13 rfl rfl, by decide, by decide, by decide +kernel⟩, Or.inl (gw_4 111 rfl rfl)⟩, gw_4 112 rfl rfl, gw_4 113 rfl rfl, by decide, TX12, 12, rfl⟩
theorem lkL_45 : gLkV RL 45 MX11_step 2 11 := ⟨⟨⟨gw_3 22 rfl rfl, gw_1 1 rfl rfl, by decide, by decide, by decide +kernel⟩, Or.inl (gw_3 19 rfl rfl)⟩, gw_3 20 rfl rfl, gw_3 21 rfl rfl, by decide, TX11, 5, rfl⟩
theorem lkL_48 : gLkV RL 48 MX12_step 2 12 := ⟨⟨⟨gw_4 135 rfl rfl, gw_1 13 rfl rfl, by decide, by decide, by decide +kernel⟩, Or.inl (gw_4 132 rfl rfl)⟩, gw_4 133 rfl rfl, gw_4 134 rfl rfl, by decide, TX12, 12, rfl⟩
theorem lkL_49 : gLkV RL 49 MX11_drop 1 11 := ⟨⟨⟨gw_3 60 rfl rfl, gw_1 1 rfl rfl, by decide, by decide, by decide +kernel⟩, Or.inl (gw_3 57 rfl rfl)⟩, gw_3 58 rfl rfl, gw_3 59 rfl rfl, by decide, TX11, 5, rfl⟩
theorem lkL_52 : gLkV RL 52 MX12_drop 1 12 := ⟨⟨⟨gw_4 163 rfl rfl, gw_1 13 rfl rfl, by decide, by decide, by decide +kernel⟩, Or.inl (gw_4 160 rfl rfl)⟩, gw_4 161 rfl rfl, gw_4 162 rfl rfl, by decide, TX12, 12, rfl⟩
theorem lkL_53 : gLkV RL 53 MX11_set 2 11 := ⟨⟨⟨gw_3 72 rfl rfl, gw_1 1 rfl rfl, by decide, by decide, by decide +kernel⟩, Or.inl (gw_3 69 rfl rfl)⟩, gw_3 70 rfl rfl, gw_3 71 rfl rfl, by decide, TX11, 5, rfl⟩
theorem lkL_56 : gLkV RL 56 MX12_set 2 12 := ⟨⟨⟨gw_4 175 rfl rfl, gw_1 13 rfl rfl, by decide, by decide, by decide +kernel⟩, Or.inl (gw_4 172 rfl rfl)⟩, gw_4 173 rfl rfl, gw_4 174 rfl rfl, by decide, TX12, 12, rfl⟩
theorem lkL_57 : gLkV RL 57 MX11_walkOf 2 11 := ⟨⟨⟨gw_3 89 rfl rfl, gw_1 1 rfl rfl, by decide, by decide, by decide +kernel⟩, Or.inl (gw_3 86 rfl rfl)⟩, gw_3 87 rfl rfl, gw_3 88 rfl rfl, by decide, TX11, 5, rfl⟩
theorem lkL_60 : gLkV RL 60 MX12_walkOf 2 12 := ⟨⟨⟨gw_4 198 rfl rfl, gw_1 13 rfl rfl, by decide, by decide, by decide +kernel⟩, Or.inl (gw_4 195 rfl rfl)⟩, gw_4 196 rfl rfl, gw_4 197 rfl rfl, by decide, TX12, 12, rfl⟩
theorem lkL_61 : gLkV RL 61 MX11_placeOf 3 11 := ⟨⟨⟨gw_3 99 rfl rfl, gw_1 1 rfl rfl, by decide, by decide, by decide +kernel⟩, Or.inl (gw_3 96 rfl rfl)⟩, gw_3 97 rfl rfl, gw_3 98 rfl rfl, by decide, TX11, 5, rfl⟩
theorem lkL_64 : gLkV RL 64 MX12_placeOf 3 12 := ⟨⟨⟨gw_4 210 rfl rfl, gw_1 13 rfl rfl, by decide, by decide, by decide +kernel⟩, Or.inl (gw_4 207 rfl rfl)⟩, gw_4 208 rfl rfl, gw_4 209 rfl rfl, by decide, TX12, 12, rfl⟩
theorem lkL_65 : gLkV RL 65 MX11_count 1 11 := ⟨⟨⟨gw_3 103 rfl rfl, gw_1 1 rfl rfl, by decide, by decide, by decide +kernel⟩, Or.inl (gw_3 100 rfl rfl)⟩, gw_3 101 rfl rfl, gw_3 102 rfl rfl, by decide, TX11, 5, rfl⟩
theorem lkL_68 : gLkV RL 68 MX12_count 1 12 := ⟨⟨⟨gw_4 214 rfl rfl, gw_1 13 rfl rfl, by decide, by decide, by decide +kernel⟩, Or.inl (gw_4 211 rfl rfl)⟩, gw_4 212 rfl rfl, gw_4 213 rfl rfl, by decide, TX12, 12, rfl⟩
theorem lkL_69 : gLkV RL 69 MX11_meets 1 11 := ⟨⟨⟨gw_3 116 rfl rfl, gw_1 1 rfl rfl, by decide, by decide, by decide +kernel⟩, Or.inl (gw_3 113 rfl rfl)⟩, gw_3 114 rfl rfl, gw_3 115 rfl rfl, by decide, TX11, 5, rfl⟩
theorem lkL_72 : gLkV RL 72 MX12_meets 1 12 := ⟨⟨⟨gw_4 222 rfl rfl, gw_1 13 rfl rfl, by decide, by decide, by decide +kernel⟩, Or.inl (gw_4 219 rfl rfl)⟩, gw_4 220 rfl rfl, gw_4 221 rfl rfl, by decide, TX12, 12, rfl⟩
theorem lkL_73 : gLkV RL 73 MX11_lengthBits 1 11 := ⟨⟨⟨gw_3 125 rfl rfl, gw_1 1 rfl rfl, by decide, by decide, by decide +kernel⟩, Or.inl (gw_3 122 rfl rfl)⟩, gw_3 123 rfl rfl, gw_3 124 rfl rfl, by decide, TX11, 5, rfl⟩
theorem lkL_76 : gLkV RL 76 MX12_lengthBits 1 12 := ⟨⟨⟨gw_4 226 rfl rfl, gw_1 13 rfl rfl, by decide, by decide, by decide +kernel⟩, Or.inl (gw_4 223 rfl rfl)⟩, gw_4 224 rfl rfl, gw_4 225 rfl rfl, by decide, TX12, 12, rfl⟩
theorem lkL_77 : gLkV RL 77 MX11_nearest 3 11 := ⟨⟨⟨gw_3 140 rfl rfl, gw_1 1 rfl rfl, by decide, by decide, by decide +kernel⟩, Or.inl (gw_3 137 rfl rfl)⟩, gw_3 138 rfl rfl, gw_3 139 rfl rfl, by decide, TX11, 5, rfl⟩
theorem lkL_80 : gLkV RL 80 MX12_nearest 3 12 := ⟨⟨⟨gw_5 4 rfl rfl, gw_1 13 rfl rfl, by decide, by decide, by decide +kernel⟩, Or.inl (gw_5 1 rfl rfl)⟩, gw_5 2 rfl rfl, gw_5 3 rfl rfl, by decide, TX12, 12, rfl⟩
theorem lkL_81 : gLkV RL 81 MX11_undo 0 11 := ⟨⟨⟨gw_3 152 rfl rfl, gw_1 1 rfl rfl, by decide, by decide, by decide +kernel⟩, Or.inl (gw_3 149 rfl rfl)⟩, gw_3 150 rfl rfl, gw_3 151 rfl rfl, by decide, TX11, 5, rfl⟩
theorem lkL_85 : gLkV RL 85 MX12_undo 0 12 := ⟨⟨⟨gw_5 8 rfl rfl, gw_1 13 rfl rfl, by decide, by decide, by decide +kernel⟩, Or.inl (gw_5 5 rfl rfl)⟩, gw_5 6 rfl rfl, gw_5 7 rfl rfl, by decide, TX12, 12, rfl⟩
theorem lkL_86 : gLkV RL 86 MX11_type 1 11 := ⟨⟨⟨gw_3 160 rfl rfl, gw_1 1 rfl rfl, by decide, by decide, by decide +kernel⟩, Or.inl (gw_3 157 rfl rfl)⟩, gw_3 158 rfl rfl, gw_3 159 rfl rfl, by decide, TX11, 5, rfl⟩
theorem lkL_89 : gLkV RL 89 MX12_type 1 12 := ⟨⟨⟨gw_5 12 rfl rfl, gw_1 13 rfl rfl, by decide, by decide, by decide +kernel⟩, Or.inl (gw_5 9 rfl rfl)⟩, gw_5 10 rfl rfl, gw_5 11 rfl rfl, by decide, TX12, 12, rfl⟩
theorem lkL_90 : gLkV RL 90 MX11_clearText 0 11 := ⟨⟨⟨gw_3 175 rfl rfl, gw_1 1 rfl rfl, by decide, by decide, by decide +kernel⟩, Or.inl (gw_3 172 rfl rfl)⟩, gw_3 173 rfl rfl, gw_3 174 rfl rfl, by decide, TX11, 5, rfl⟩
theorem lkL_93 : gLkV RL 93 MX12_clearText 0 12 := ⟨⟨⟨gw_5 16 rfl rfl, gw_1 13 rfl rfl, by decide, by decide, by decide +kernel⟩, Or.inl (gw_5 13 rfl rfl)⟩, gw_5 14 rfl rfl, gw_5 15 rfl rfl, by decide, TX12, 12, rfl⟩
theorem lkL_94 : gLkV RL 94 MX11_fault 1 11 := ⟨⟨⟨gw_3 179 rfl rfl, gw_1 1 rfl rfl, by decide, by decide, by decide +kernel⟩, Or.inl (gw_3 176 rfl rfl)⟩, gw_3 177 rfl rfl, gw_3 178 rfl rfl, by decide, TX11, 5, rfl⟩
theorem lkL_97 : gLkV RL 97 MX12_fault 1 12 := ⟨⟨⟨gw_5 20 rfl rfl, gw_1 13 rfl rfl, by decide, by decide, by decide +kernel⟩, Or.inl (gw_5 17 rfl rfl)⟩, gw_5 18 rfl rfl, gw_5 19 rfl rfl, by decide, TX12, 12, rfl⟩
theorem lkL_98 : gLkV RL 98 MX11_read 0 11 := ⟨⟨⟨gw_3 217 rfl rfl, gw_1 1 rfl rfl, by decide, by decide, by decide +kernel⟩, Or.inl (gw_3 214 rfl rfl)⟩, gw_3 215 rfl rfl, gw_3 216 rfl rfl, by decide, TX11, 5, rfl⟩
theorem lkL_101 : gLkV RL 101 MX12_read 0 12 := ⟨⟨⟨gw_5 36 rfl rfl, gw_1 13 rfl rfl, by decide, by decide, by decide +kernel⟩, Or.inl (gw_5 33 rfl rfl)⟩, gw_5 34 rfl rfl, gw_5 35 rfl rfl, by decide, TX12, 12, rfl⟩
theorem insX0 : Cond.instantiable RX0 4 ∈ gw := gw_1 187 rfl rfl
theorem iniX0 : Cond.initialized RX0 ∈ gw := gw_1 9 rfl rfl
theorem insX1 : Cond.instantiable RX1 3 ∈ gw := gw_1 161 rfl rfl
theorem iniX1 : Cond.initialized RX1 ∈ gw := gw_1 7 rfl rfl
theorem insX2 : Cond.instantiable RX2 2 ∈ gw := gw_1 181 rfl rfl
theorem iniX2 : Cond.initialized RX2 ∈ gw := gw_1 8 rfl rfl
theorem insX3 : Cond.instantiable RX3 8 ∈ gw := gw_2 27 rfl rfl
theorem iniX3 : Cond.initialized RX3 ∈ gw := gw_1 12 rfl rfl
theorem insX4 : Cond.instantiable RX4 1 ∈ gw := gw_1 134 rfl rfl
theorem iniX4 : Cond.initialized RX4 ∈ gw := gw_1 6 rfl rfl
theorem insX5 : Cond.instantiable RX5 3 ∈ gw := gw_1 193 rfl rfl
theorem iniX5 : Cond.initialized RX5 ∈ gw := gw_1 10 rfl rfl
theorem insX6 : Cond.instantiable RX6 3 ∈ gw := gw_1 25 rfl rfl
theorem iniX6 : Cond.initialized RX6 ∈ gw := gw_1 2 rfl rfl
theorem insX7 : Cond.instantiable RX7 4 ∈ gw := gw_1 31 rfl rfl
theorem iniX7 : Cond.initialized RX7 ∈ gw := gw_1 3 rfl rfl
theorem insX8 : Cond.instantiable RX8 2 ∈ gw := gw_2 11 rfl rfl
theorem iniX8 : Cond.initialized RX8 ∈ gw := gw_1 11 rfl rfl
theorem insX9 : Cond.instantiable RX9 10 ∈ gw := gw_1 66 rfl rfl
theorem iniX9 : Cond.initialized RX9 ∈ gw := gw_1 5 rfl rfl
theorem insX10 : Cond.instantiable RX10 4 ∈ gw := gw_1 59 rfl rfl
theorem iniX10 : Cond.initialized RX10 ∈ gw := gw_1 4 rfl rfl
theorem insX11 : Cond.instantiable RX11 5 ∈ gw := gw_1 17 rfl rfl
theorem iniX11 : Cond.initialized RX11 ∈ gw := gw_1 1 rfl rfl
theorem insX12 : Cond.instantiable RX12 12 ∈ gw := gw_3 220 rfl rfl
theorem iniX12 : Cond.initialized RX12 ∈ gw := gw_1 13 rfl rfl
theorem oim : Cond.instanceMethod objectInit ∈ gw := gw_1 22 rfl rfl
theorem oic : Cond.code objectInit ⟨#[0xb1]⟩ 1 none ∈ gw := gw_1 23 rfl rfl
theorem aci : Cond.arrayClass .int ∈ gw := gw_1 57 rfl rfl
theorem acz : Cond.arrayClass .boolean ∈ gw := gw_1 118 rfl rfl
theorem rawn : Cond.native ⟨"java/lang/Float", "floatToRawIntBits", "(F)I"⟩ ∈ gw := gw_4 239 rfl rfl
theorem raws : Cond.static ⟨"java/lang/Float", "floatToRawIntBits", "(F)I"⟩ ∈ gw := gw_4 238 rfl rfl
theorem rawi : Cond.initialized "java/lang/Float" ∈ gw := gw_1 15 rfl rfl
end
section
def gRt (v : Option Value) (rest : List Value) : List Value := match v with
  | none => rest
  | some x => x :: rest
theorem gRt_eq (v : Option Value) (rest : List Value) : gRt v rest = v.toList ++ rest := by cases v <;> rfl
/-- a truth value as an int -/
def gB (c : Prop) [Decidable c] : Int32 := if c then 1 else 0
theorem gB_t {c : Prop} [Decidable c] (h : c) : gB c = 1 := if_pos h
theorem gB_f {c : Prop} [Decidable c] (h : ¬ c) : gB c = 0 := if_neg h
theorem gB_eq {c : Prop} [Decidable c] : gB c = 0 ↔ ¬ c := by by_cases h : c <;> simp [gB, h]
theorem gB_ne {c : Prop} [Decidable c] : ¬ gB c = 0 ↔ c := by by_cases h : c <;> simp [gB, h]
theorem gB_nar {c : Prop} [Decidable c] : narrow .boolean (.int (gB c)) = .int (gB c) := by by_cases h : c <;> simp [gB, h] <;> rfl
theorem gB_c {c d : Prop} [Decidable c] [Decidable d] (h : c ↔ d) : gB c = gB d := by by_cases hc : c <;> simp [gB, hc, ← h]
section GM
variable {Γ : gG} {M N : gM} {k n pc : Nat} {L : List (Nat × Value)} {st : List Value} {T : gTy} {r : gR} {l : gLg} {i : gI} {Q : gQ}
theorem G_ialdJ {a nn j : Nat} {x : Int32} (hd : decode M.2.1 pc = .ok (.iaload, 1)) (hk : T.2 a = (13, nn)) (hx : x = nI j) (hj : j < nn) (hnn : nn < 2 ^ 31) (kk : G Γ M k n (pc + 1) L (.int (i a j) :: st) T r l i Q) : G Γ M k n pc L (.int x :: .ref a :: st) T r l i Q := by
  subst hx
  refine G_iald hd hk (vp_in_nI hj hnn) ?_
  rw [nI_clamp (Nat.lt_trans hj hnn)]
  exact kk
theorem G_zaldJ {a nn j : Nat} {x : Int32} (hd : decode M.2.1 pc = .ok (.baload, 1)) (hk : T.2 a = (14, nn)) (hx : x = nI j) (hj : j < nn) (hnn : nn < 2 ^ 31) (kk : G Γ M k n (pc + 1) L (.int (i a j) :: st) T r l i Q) : G Γ M k n pc L (.int x :: .ref a :: st) T r l i Q := by
  subst hx
  refine G_zald hd hk (vp_in_nI hj hnn) ?_
  rw [nI_clamp (Nat.lt_trans hj hnn)]
  exact kk
theorem G_aaldWJ {a nn b j : Nat} {x : Int32} (hd : decode M.2.1 pc = .ok (.aaload, 1)) (hk : T.2 a = (16, nn)) (hx : x = nI j) (hj : j < nn) (hnn : nn < 2 ^ 31) (hr : r a j = some b) (kk : G Γ M k n (pc + 1) L (.ref b :: st) T r l i Q) : G Γ M k n pc L (.int x :: .ref a :: st) T r l i Q := by
  subst hx
  exact G_aaldW hd hk (vp_in_nI hj hnn) (by rw [nI_clamp (Nat.lt_trans hj hnn)]; exact hr) kk
theorem G_aaldSJ {a nn b j : Nat} {x : Int32} (hd : decode M.2.1 pc = .ok (.aaload, 1)) (hk : T.2 a = (15, nn)) (hx : x = nI j) (hj : j < nn) (hnn : nn < 2 ^ 31) (hr : r a j = some b) (kk : G Γ M k n (pc + 1) L (.ref b :: st) T r l i Q) : G Γ M k n pc L (.int x :: .ref a :: st) T r l i Q := by
  subst hx
  exact G_aaldS hd hk (vp_in_nI hj hnn) (by rw [nI_clamp (Nat.lt_trans hj hnn)]; exact hr) kk
theorem G_iastJ {a nn j : Nat} {x y : Int32} (hd : decode M.2.1 pc = .ok (.iastore, 1)) (hk : T.2 a = (13, nn)) (hx : x = nI j) (hj : j < nn) (hnn : nn < 2 ^ 31) (hA : gN Γ ≤ a) (kk : G Γ M k n (pc + 1) L st T r l (up2 i a j y) Q) : G Γ M k n pc L (.int y :: .int x :: .ref a :: st) T r l i Q := by
  subst hx
  refine G_iast hd hk (vp_in_nI hj hnn) hA ?_
  rw [nI_clamp (Nat.lt_trans hj hnn)]
  exact kk
theorem G_zastJ {a nn j : Nat} {x y : Int32} (hd : decode M.2.1 pc = .ok (.bastore, 1)) (hk : T.2 a = (14, nn)) (hx : x = nI j) (hj : j < nn) (hnn : nn < 2 ^ 31) (hy : narrow .boolean (.int y) = .int y) (hA : gN Γ ≤ a) (kk : G Γ M k n (pc + 1) L st T r l (up2 i a j y) Q) : G Γ M k n pc L (.int y :: .int x :: .ref a :: st) T r l i Q := by
  subst hx
  refine G_zast hd hk (vp_in_nI hj hnn) hy hA ?_
  rw [nI_clamp (Nat.lt_trans hj hnn)]
  exact kk
theorem G_aastWJ {a nn b j : Nat} {x : Int32} (hd : decode M.2.1 pc = .ok (.aastore, 1)) (hk : T.2 a = (16, nn)) (hx : x = nI j) (hj : j < nn) (hnn : nn < 2 ^ 31) (hb : (T.2 b).1 = 9) (hA : gN Γ ≤ a) (kk : G Γ M k n (pc + 1) L st T (up2 r a j (some b)) l i Q) : G Γ M k n pc L (.ref b :: .int x :: .ref a :: st) T r l i Q := by
  subst hx
  refine G_aastW hd hk hb (vp_in_nI hj hnn) hA ?_
  rw [nI_clamp (Nat.lt_trans hj hnn)]
  exact kk
theorem G_aastSJ {a nn b j : Nat} {x : Int32} (hd : decode M.2.1 pc = .ok (.aastore, 1)) (hk : T.2 a = (15, nn)) (hx : x = nI j) (hj : j < nn) (hnn : nn < 2 ^ 31) (hb : (T.2 b).1 = 6) (hA : gN Γ ≤ a) (kk : G Γ M k n (pc + 1) L st T (up2 r a j (some b)) l i Q) : G Γ M k n pc L (.ref b :: .int x :: .ref a :: st) T r l i Q := by
  subst hx
  refine G_aastS hd hk hb (vp_in_nI hj hnn) hA ?_
  rw [nI_clamp (Nat.lt_trans hj hnn)]
  exact kk
theorem G_subL {L' : List (Nat × Value)} (h : ∀ y ∈ L', y ∈ L) (kk : G Γ M k n pc L' st T r l i Q) : G Γ M k n pc L st T r l i Q := fun p e s m args below meth c H locs ls X F hls hP hS hE => kk p e s m args below meth c H locs ls X F ⟨hls.1, hls.2.1, fun y hy => hls.2.2 y (h y hy)⟩ hP hS hE
theorem G_inc0 {q : Nat} {z : Int} {x v : Int32} {B : List (Nat × Value)} (hd : decode M.2.1 pc = .ok (.iinc q z, 3)) (hv : Int32.ofInt z = v) (hq : q < M.2.2.1) (hk : gKp q false ([] ++ B) = true) (kk : G Γ M k n (pc + 3) ((q, .int (x + v)) :: B) st T r l i Q) : G Γ M k n pc ((q, .int x) :: B) st T r l i Q := G_iinc0 hd hq hk (by rw [hv]; exact kk)
theorem G_drop0 {b0 : Nat × Value} {B : List (Nat × Value)} (kk : G Γ M k n pc (B) st T r l i Q) : G Γ M k n pc (b0 :: B) st T r l i Q := G_subL (fun y hy => by
  have h2 : y ∈ [] ++ B := hy
  show y ∈ [] ++ b0 :: B
  rcases List.mem_append.mp h2 with h | h
  · exact List.mem_append_left _ h
  · exact List.mem_append_right _ (List.mem_cons_of_mem _ h)) kk
theorem G_inc1 {q : Nat} {z : Int} {x v : Int32} {a0 : Nat × Value} {B : List (Nat × Value)} (hd : decode M.2.1 pc = .ok (.iinc q z, 3)) (hv : Int32.ofInt z = v) (hq : q < M.2.2.1) (hk : gKp q false ([a0] ++ B) = true) (kk : G Γ M k n (pc + 3) (a0 :: (q, .int (x + v)) :: B) st T r l i Q) : G Γ M k n pc (a0 :: (q, .int x) :: B) st T r l i Q := G_iinc1 hd hq hk (by rw [hv]; exact kk)
theorem G_drop1 {b0 : Nat × Value} {a0 : Nat × Value} {B : List (Nat × Value)} (kk : G Γ M k n pc (a0 :: B) st T r l i Q) : G Γ M k n pc (a0 :: b0 :: B) st T r l i Q := G_subL (fun y hy => by
  have h2 : y ∈ [a0] ++ B := hy
  show y ∈ [a0] ++ b0 :: B
  rcases List.mem_append.mp h2 with h | h
  · exact List.mem_append_left _ h
  · exact List.mem_append_right _ (List.mem_cons_of_mem _ h)) kk
theorem G_inc2 {q : Nat} {z : Int} {x v : Int32} {a0 a1 : Nat × Value} {B : List (Nat × Value)} (hd : decode M.2.1 pc = .ok (.iinc q z, 3)) (hv : Int32.ofInt z = v) (hq : q < M.2.2.1) (hk : gKp q false ([a0, a1] ++ B) = true) (kk : G Γ M k n (pc + 3) (a0 :: a1 :: (q, .int (x + v)) :: B) st T r l i Q) : G Γ M k n pc (a0 :: a1 :: (q, .int x) :: B) st T r l i Q := G_iinc2 hd hq hk (by rw [hv]; exact kk)
theorem G_drop2 {b0 : Nat × Value} {a0 a1 : Nat × Value} {B : List (Nat × Value)} (kk : G Γ M k n pc (a0 :: a1 :: B) st T r l i Q) : G Γ M k n pc (a0 :: a1 :: b0 :: B) st T r l i Q := G_subL (fun y hy => by
  have h2 : y ∈ [a0, a1] ++ B := hy
  show y ∈ [a0, a1] ++ b0 :: B
  rcases List.mem_append.mp h2 with h | h
  · exact List.mem_append_left _ h
  · exact List.mem_append_right _ (List.mem_cons_of_mem _ h)) kk
theorem G_inc3 {q : Nat} {z : Int} {x v : Int32} {a0 a1 a2 : Nat × Value} {B : List (Nat × Value)} (hd : decode M.2.1 pc = .ok (.iinc q z, 3)) (hv : Int32.ofInt z = v) (hq : q < M.2.2.1) (hk : gKp q false ([a0, a1, a2] ++ B) = true) (kk : G Γ M k n (pc + 3) (a0 :: a1 :: a2 :: (q, .int (x + v)) :: B) st T r l i Q) : G Γ M k n pc (a0 :: a1 :: a2 :: (q, .int x) :: B) st T r l i Q := G_iinc3 hd hq hk (by rw [hv]; exact kk)
theorem G_drop3 {b0 : Nat × Value} {a0 a1 a2 : Nat × Value} {B : List (Nat × Value)} (kk : G Γ M k n pc (a0 :: a1 :: a2 :: B) st T r l i Q) : G Γ M k n pc (a0 :: a1 :: a2 :: b0 :: B) st T r l i Q := G_subL (fun y hy => by
  have h2 : y ∈ [a0, a1, a2] ++ B := hy
  show y ∈ [a0, a1, a2] ++ b0 :: B
  rcases List.mem_append.mp h2 with h | h
  · exact List.mem_append_left _ h
  · exact List.mem_append_right _ (List.mem_cons_of_mem _ h)) kk
theorem G_inc4 {q : Nat} {z : Int} {x v : Int32} {a0 a1 a2 a3 : Nat × Value} {B : List (Nat × Value)} (hd : decode M.2.1 pc = .ok (.iinc q z, 3)) (hv : Int32.ofInt z = v) (hq : q < M.2.2.1) (hk : gKp q false ([a0, a1, a2, a3] ++ B) = true) (kk : G Γ M k n (pc + 3) (a0 :: a1 :: a2 :: a3 :: (q, .int (x + v)) :: B) st T r l i Q) : G Γ M k n pc (a0 :: a1 :: a2 :: a3 :: (q, .int x) :: B) st T r l i Q := G_iinc4 hd hq hk (by rw [hv]; exact kk)
theorem G_drop4 {b0 : Nat × Value} {a0 a1 a2 a3 : Nat × Value} {B : List (Nat × Value)} (kk : G Γ M k n pc (a0 :: a1 :: a2 :: a3 :: B) st T r l i Q) : G Γ M k n pc (a0 :: a1 :: a2 :: a3 :: b0 :: B) st T r l i Q := G_subL (fun y hy => by
  have h2 : y ∈ [a0, a1, a2, a3] ++ B := hy
  show y ∈ [a0, a1, a2, a3] ++ b0 :: B
  rcases List.mem_append.mp h2 with h | h
  · exact List.mem_append_left _ h
  · exact List.mem_append_right _ (List.mem_cons_of_mem _ h)) kk
theorem G_inc5 {q : Nat} {z : Int} {x v : Int32} {a0 a1 a2 a3 a4 : Nat × Value} {B : List (Nat × Value)} (hd : decode M.2.1 pc = .ok (.iinc q z, 3)) (hv : Int32.ofInt z = v) (hq : q < M.2.2.1) (hk : gKp q false ([a0, a1, a2, a3, a4] ++ B) = true) (kk : G Γ M k n (pc + 3) (a0 :: a1 :: a2 :: a3 :: a4 :: (q, .int (x + v)) :: B) st T r l i Q) : G Γ M k n pc (a0 :: a1 :: a2 :: a3 :: a4 :: (q, .int x) :: B) st T r l i Q := G_iinc5 hd hq hk (by rw [hv]; exact kk)
theorem G_drop5 {b0 : Nat × Value} {a0 a1 a2 a3 a4 : Nat × Value} {B : List (Nat × Value)} (kk : G Γ M k n pc (a0 :: a1 :: a2 :: a3 :: a4 :: B) st T r l i Q) : G Γ M k n pc (a0 :: a1 :: a2 :: a3 :: a4 :: b0 :: B) st T r l i Q := G_subL (fun y hy => by
  have h2 : y ∈ [a0, a1, a2, a3, a4] ++ B := hy
  show y ∈ [a0, a1, a2, a3, a4] ++ b0 :: B
  rcases List.mem_append.mp h2 with h | h
  · exact List.mem_append_left _ h
  · exact List.mem_append_right _ (List.mem_cons_of_mem _ h)) kk
theorem G_inc6 {q : Nat} {z : Int} {x v : Int32} {a0 a1 a2 a3 a4 a5 : Nat × Value} {B : List (Nat × Value)} (hd : decode M.2.1 pc = .ok (.iinc q z, 3)) (hv : Int32.ofInt z = v) (hq : q < M.2.2.1) (hk : gKp q false ([a0, a1, a2, a3, a4, a5] ++ B) = true) (kk : G Γ M k n (pc + 3) (a0 :: a1 :: a2 :: a3 :: a4 :: a5 :: (q, .int (x + v)) :: B) st T r l i Q) : G Γ M k n pc (a0 :: a1 :: a2 :: a3 :: a4 :: a5 :: (q, .int x) :: B) st T r l i Q := G_iinc6 hd hq hk (by rw [hv]; exact kk)
theorem G_drop6 {b0 : Nat × Value} {a0 a1 a2 a3 a4 a5 : Nat × Value} {B : List (Nat × Value)} (kk : G Γ M k n pc (a0 :: a1 :: a2 :: a3 :: a4 :: a5 :: B) st T r l i Q) : G Γ M k n pc (a0 :: a1 :: a2 :: a3 :: a4 :: a5 :: b0 :: B) st T r l i Q := G_subL (fun y hy => by
  have h2 : y ∈ [a0, a1, a2, a3, a4, a5] ++ B := hy
  show y ∈ [a0, a1, a2, a3, a4, a5] ++ b0 :: B
  rcases List.mem_append.mp h2 with h | h
  · exact List.mem_append_left _ h
  · exact List.mem_append_right _ (List.mem_cons_of_mem _ h)) kk
theorem G_inc7 {q : Nat} {z : Int} {x v : Int32} {a0 a1 a2 a3 a4 a5 a6 : Nat × Value} {B : List (Nat × Value)} (hd : decode M.2.1 pc = .ok (.iinc q z, 3)) (hv : Int32.ofInt z = v) (hq : q < M.2.2.1) (hk : gKp q false ([a0, a1, a2, a3, a4, a5, a6] ++ B) = true) (kk : G Γ M k n (pc + 3) (a0 :: a1 :: a2 :: a3 :: a4 :: a5 :: a6 :: (q, .int (x + v)) :: B) st T r l i Q) : G Γ M k n pc (a0 :: a1 :: a2 :: a3 :: a4 :: a5 :: a6 :: (q, .int x) :: B) st T r l i Q := G_iinc7 hd hq hk (by rw [hv]; exact kk)
theorem G_drop7 {b0 : Nat × Value} {a0 a1 a2 a3 a4 a5 a6 : Nat × Value} {B : List (Nat × Value)} (kk : G Γ M k n pc (a0 :: a1 :: a2 :: a3 :: a4 :: a5 :: a6 :: B) st T r l i Q) : G Γ M k n pc (a0 :: a1 :: a2 :: a3 :: a4 :: a5 :: a6 :: b0 :: B) st T r l i Q := G_subL (fun y hy => by
  have h2 : y ∈ [a0, a1, a2, a3, a4, a5, a6] ++ B := hy
  show y ∈ [a0, a1, a2, a3, a4, a5, a6] ++ b0 :: B
  rcases List.mem_append.mp h2 with h | h
  · exact List.mem_append_left _ h
  · exact List.mem_append_right _ (List.mem_cons_of_mem _ h)) kk
theorem G_inc8 {q : Nat} {z : Int} {x v : Int32} {a0 a1 a2 a3 a4 a5 a6 a7 : Nat × Value} {B : List (Nat × Value)} (hd : decode M.2.1 pc = .ok (.iinc q z, 3)) (hv : Int32.ofInt z = v) (hq : q < M.2.2.1) (hk : gKp q false ([a0, a1, a2, a3, a4, a5, a6, a7] ++ B) = true) (kk : G Γ M k n (pc + 3) (a0 :: a1 :: a2 :: a3 :: a4 :: a5 :: a6 :: a7 :: (q, .int (x + v)) :: B) st T r l i Q) : G Γ M k n pc (a0 :: a1 :: a2 :: a3 :: a4 :: a5 :: a6 :: a7 :: (q, .int x) :: B) st T r l i Q := G_iinc8 hd hq hk (by rw [hv]; exact kk)
theorem G_drop8 {b0 : Nat × Value} {a0 a1 a2 a3 a4 a5 a6 a7 : Nat × Value} {B : List (Nat × Value)} (kk : G Γ M k n pc (a0 :: a1 :: a2 :: a3 :: a4 :: a5 :: a6 :: a7 :: B) st T r l i Q) : G Γ M k n pc (a0 :: a1 :: a2 :: a3 :: a4 :: a5 :: a6 :: a7 :: b0 :: B) st T r l i Q := G_subL (fun y hy => by
  have h2 : y ∈ [a0, a1, a2, a3, a4, a5, a6, a7] ++ B := hy
  show y ∈ [a0, a1, a2, a3, a4, a5, a6, a7] ++ b0 :: B
  rcases List.mem_append.mp h2 with h | h
  · exact List.mem_append_left _ h
  · exact List.mem_append_right _ (List.mem_cons_of_mem _ h)) kk
theorem G_inc9 {q : Nat} {z : Int} {x v : Int32} {a0 a1 a2 a3 a4 a5 a6 a7 a8 : Nat × Value} {B : List (Nat × Value)} (hd : decode M.2.1 pc = .ok (.iinc q z, 3)) (hv : Int32.ofInt z = v) (hq : q < M.2.2.1) (hk : gKp q false ([a0, a1, a2, a3, a4, a5, a6, a7, a8] ++ B) = true) (kk : G Γ M k n (pc + 3) (a0 :: a1 :: a2 :: a3 :: a4 :: a5 :: a6 :: a7 :: a8 :: (q, .int (x + v)) :: B) st T r l i Q) : G Γ M k n pc (a0 :: a1 :: a2 :: a3 :: a4 :: a5 :: a6 :: a7 :: a8 :: (q, .int x) :: B) st T r l i Q := G_iinc9 hd hq hk (by rw [hv]; exact kk)
theorem G_drop9 {b0 : Nat × Value} {a0 a1 a2 a3 a4 a5 a6 a7 a8 : Nat × Value} {B : List (Nat × Value)} (kk : G Γ M k n pc (a0 :: a1 :: a2 :: a3 :: a4 :: a5 :: a6 :: a7 :: a8 :: B) st T r l i Q) : G Γ M k n pc (a0 :: a1 :: a2 :: a3 :: a4 :: a5 :: a6 :: a7 :: a8 :: b0 :: B) st T r l i Q := G_subL (fun y hy => by
  have h2 : y ∈ [a0, a1, a2, a3, a4, a5, a6, a7, a8] ++ B := hy
  show y ∈ [a0, a1, a2, a3, a4, a5, a6, a7, a8] ++ b0 :: B
  rcases List.mem_append.mp h2 with h | h
  · exact List.mem_append_left _ h
  · exact List.mem_append_right _ (List.mem_cons_of_mem _ h)) kk
theorem G_inc10 {q : Nat} {z : Int} {x v : Int32} {a0 a1 a2 a3 a4 a5 a6 a7 a8 a9 : Nat × Value} {B : List (Nat × Value)} (hd : decode M.2.1 pc = .ok (.iinc q z, 3)) (hv : Int32.ofInt z = v) (hq : q < M.2.2.1) (hk : gKp q false ([a0, a1, a2, a3, a4, a5, a6, a7, a8, a9] ++ B) = true) (kk : G Γ M k n (pc + 3) (a0 :: a1 :: a2 :: a3 :: a4 :: a5 :: a6 :: a7 :: a8 :: a9 :: (q, .int (x + v)) :: B) st T r l i Q) : G Γ M k n pc (a0 :: a1 :: a2 :: a3 :: a4 :: a5 :: a6 :: a7 :: a8 :: a9 :: (q, .int x) :: B) st T r l i Q := G_iinc10 hd hq hk (by rw [hv]; exact kk)
theorem G_drop10 {b0 : Nat × Value} {a0 a1 a2 a3 a4 a5 a6 a7 a8 a9 : Nat × Value} {B : List (Nat × Value)} (kk : G Γ M k n pc (a0 :: a1 :: a2 :: a3 :: a4 :: a5 :: a6 :: a7 :: a8 :: a9 :: B) st T r l i Q) : G Γ M k n pc (a0 :: a1 :: a2 :: a3 :: a4 :: a5 :: a6 :: a7 :: a8 :: a9 :: b0 :: B) st T r l i Q := G_subL (fun y hy => by
  have h2 : y ∈ [a0, a1, a2, a3, a4, a5, a6, a7, a8, a9] ++ B := hy
  show y ∈ [a0, a1, a2, a3, a4, a5, a6, a7, a8, a9] ++ b0 :: B
  rcases List.mem_append.mp h2 with h | h
  · exact List.mem_append_left _ h
  · exact List.mem_append_right _ (List.mem_cons_of_mem _ h)) kk
theorem G_inc11 {q : Nat} {z : Int} {x v : Int32} {a0 a1 a2 a3 a4 a5 a6 a7 a8 a9 a10 : Nat × Value} {B : List (Nat × Value)} (hd : decode M.2.1 pc = .ok (.iinc q z, 3)) (hv : Int32.ofInt z = v) (hq : q < M.2.2.1) (hk : gKp q false ([a0, a1, a2, a3, a4, a5, a6, a7, a8, a9, a10] ++ B) = true) (kk : G Γ M k n (pc + 3) (a0 :: a1 :: a2 :: a3 :: a4 :: a5 :: a6 :: a7 :: a8 :: a9 :: a10 :: (q, .int (x + v)) :: B) st T r l i Q) : G Γ M k n pc (a0 :: a1 :: a2 :: a3 :: a4 :: a5 :: a6 :: a7 :: a8 :: a9 :: a10 :: (q, .int x) :: B) st T r l i Q := G_iinc11 hd hq hk (by rw [hv]; exact kk)
theorem G_drop11 {b0 : Nat × Value} {a0 a1 a2 a3 a4 a5 a6 a7 a8 a9 a10 : Nat × Value} {B : List (Nat × Value)} (kk : G Γ M k n pc (a0 :: a1 :: a2 :: a3 :: a4 :: a5 :: a6 :: a7 :: a8 :: a9 :: a10 :: B) st T r l i Q) : G Γ M k n pc (a0 :: a1 :: a2 :: a3 :: a4 :: a5 :: a6 :: a7 :: a8 :: a9 :: a10 :: b0 :: B) st T r l i Q := G_subL (fun y hy => by
  have h2 : y ∈ [a0, a1, a2, a3, a4, a5, a6, a7, a8, a9, a10] ++ B := hy
  show y ∈ [a0, a1, a2, a3, a4, a5, a6, a7, a8, a9, a10] ++ b0 :: B
  rcases List.mem_append.mp h2 with h | h
  · exact List.mem_append_left _ h
  · exact List.mem_append_right _ (List.mem_cons_of_mem _ h)) kk
theorem G_inc12 {q : Nat} {z : Int} {x v : Int32} {a0 a1 a2 a3 a4 a5 a6 a7 a8 a9 a10 a11 : Nat × Value} {B : List (Nat × Value)} (hd : decode M.2.1 pc = .ok (.iinc q z, 3)) (hv : Int32.ofInt z = v) (hq : q < M.2.2.1) (hk : gKp q false ([a0, a1, a2, a3, a4, a5, a6, a7, a8, a9, a10, a11] ++ B) = true) (kk : G Γ M k n (pc + 3) (a0 :: a1 :: a2 :: a3 :: a4 :: a5 :: a6 :: a7 :: a8 :: a9 :: a10 :: a11 :: (q, .int (x + v)) :: B) st T r l i Q) : G Γ M k n pc (a0 :: a1 :: a2 :: a3 :: a4 :: a5 :: a6 :: a7 :: a8 :: a9 :: a10 :: a11 :: (q, .int x) :: B) st T r l i Q := G_iinc12 hd hq hk (by rw [hv]; exact kk)
theorem G_drop12 {b0 : Nat × Value} {a0 a1 a2 a3 a4 a5 a6 a7 a8 a9 a10 a11 : Nat × Value} {B : List (Nat × Value)} (kk : G Γ M k n pc (a0 :: a1 :: a2 :: a3 :: a4 :: a5 :: a6 :: a7 :: a8 :: a9 :: a10 :: a11 :: B) st T r l i Q) : G Γ M k n pc (a0 :: a1 :: a2 :: a3 :: a4 :: a5 :: a6 :: a7 :: a8 :: a9 :: a10 :: a11 :: b0 :: B) st T r l i Q := G_subL (fun y hy => by
  have h2 : y ∈ [a0, a1, a2, a3, a4, a5, a6, a7, a8, a9, a10, a11] ++ B := hy
  show y ∈ [a0, a1, a2, a3, a4, a5, a6, a7, a8, a9, a10, a11] ++ b0 :: B
  rcases List.mem_append.mp h2 with h | h
  · exact List.mem_append_left _ h
  · exact List.mem_append_right _ (List.mem_cons_of_mem _ h)) kk
theorem G_inc13 {q : Nat} {z : Int} {x v : Int32} {a0 a1 a2 a3 a4 a5 a6 a7 a8 a9 a10 a11 a12 : Nat × Value} {B : List (Nat × Value)} (hd : decode M.2.1 pc = .ok (.iinc q z, 3)) (hv : Int32.ofInt z = v) (hq : q < M.2.2.1) (hk : gKp q false ([a0, a1, a2, a3, a4, a5, a6, a7, a8, a9, a10, a11, a12] ++ B) = true) (kk : G Γ M k n (pc + 3) (a0 :: a1 :: a2 :: a3 :: a4 :: a5 :: a6 :: a7 :: a8 :: a9 :: a10 :: a11 :: a12 :: (q, .int (x + v)) :: B) st T r l i Q) : G Γ M k n pc (a0 :: a1 :: a2 :: a3 :: a4 :: a5 :: a6 :: a7 :: a8 :: a9 :: a10 :: a11 :: a12 :: (q, .int x) :: B) st T r l i Q := G_iinc13 hd hq hk (by rw [hv]; exact kk)
theorem G_drop13 {b0 : Nat × Value} {a0 a1 a2 a3 a4 a5 a6 a7 a8 a9 a10 a11 a12 : Nat × Value} {B : List (Nat × Value)} (kk : G Γ M k n pc (a0 :: a1 :: a2 :: a3 :: a4 :: a5 :: a6 :: a7 :: a8 :: a9 :: a10 :: a11 :: a12 :: B) st T r l i Q) : G Γ M k n pc (a0 :: a1 :: a2 :: a3 :: a4 :: a5 :: a6 :: a7 :: a8 :: a9 :: a10 :: a11 :: a12 :: b0 :: B) st T r l i Q := G_subL (fun y hy => by
  have h2 : y ∈ [a0, a1, a2, a3, a4, a5, a6, a7, a8, a9, a10, a11, a12] ++ B := hy
  show y ∈ [a0, a1, a2, a3, a4, a5, a6, a7, a8, a9, a10, a11, a12] ++ b0 :: B
  rcases List.mem_append.mp h2 with h | h
  · exact List.mem_append_left _ h
  · exact List.mem_append_right _ (List.mem_cons_of_mem _ h)) kk
theorem G_inc14 {q : Nat} {z : Int} {x v : Int32} {a0 a1 a2 a3 a4 a5 a6 a7 a8 a9 a10 a11 a12 a13 : Nat × Value} {B : List (Nat × Value)} (hd : decode M.2.1 pc = .ok (.iinc q z, 3)) (hv : Int32.ofInt z = v) (hq : q < M.2.2.1) (hk : gKp q false ([a0, a1, a2, a3, a4, a5, a6, a7, a8, a9, a10, a11, a12, a13] ++ B) = true) (kk : G Γ M k n (pc + 3) (a0 :: a1 :: a2 :: a3 :: a4 :: a5 :: a6 :: a7 :: a8 :: a9 :: a10 :: a11 :: a12 :: a13 :: (q, .int (x + v)) :: B) st T r l i Q) : G Γ M k n pc (a0 :: a1 :: a2 :: a3 :: a4 :: a5 :: a6 :: a7 :: a8 :: a9 :: a10 :: a11 :: a12 :: a13 :: (q, .int x) :: B) st T r l i Q := G_iinc14 hd hq hk (by rw [hv]; exact kk)
theorem G_drop14 {b0 : Nat × Value} {a0 a1 a2 a3 a4 a5 a6 a7 a8 a9 a10 a11 a12 a13 : Nat × Value} {B : List (Nat × Value)} (kk : G Γ M k n pc (a0 :: a1 :: a2 :: a3 :: a4 :: a5 :: a6 :: a7 :: a8 :: a9 :: a10 :: a11 :: a12 :: a13 :: B) st T r l i Q) : G Γ M k n pc (a0 :: a1 :: a2 :: a3 :: a4 :: a5 :: a6 :: a7 :: a8 :: a9 :: a10 :: a11 :: a12 :: a13 :: b0 :: B) st T r l i Q := G_subL (fun y hy => by
  have h2 : y ∈ [a0, a1, a2, a3, a4, a5, a6, a7, a8, a9, a10, a11, a12, a13] ++ B := hy
  show y ∈ [a0, a1, a2, a3, a4, a5, a6, a7, a8, a9, a10, a11, a12, a13] ++ b0 :: B
  rcases List.mem_append.mp h2 with h | h
  · exact List.mem_append_left _ h
  · exact List.mem_append_right _ (List.mem_cons_of_mem _ h)) kk
theorem G_inc15 {q : Nat} {z : Int} {x v : Int32} {a0 a1 a2 a3 a4 a5 a6 a7 a8 a9 a10 a11 a12 a13 a14 : Nat × Value} {B : List (Nat × Value)} (hd : decode M.2.1 pc = .ok (.iinc q z, 3)) (hv : Int32.ofInt z = v) (hq : q < M.2.2.1) (hk : gKp q false ([a0, a1, a2, a3, a4, a5, a6, a7, a8, a9, a10, a11, a12, a13, a14] ++ B) = true) (kk : G Γ M k n (pc + 3) (a0 :: a1 :: a2 :: a3 :: a4 :: a5 :: a6 :: a7 :: a8 :: a9 :: a10 :: a11 :: a12 :: a13 :: a14 :: (q, .int (x + v)) :: B) st T r l i Q) : G Γ M k n pc (a0 :: a1 :: a2 :: a3 :: a4 :: a5 :: a6 :: a7 :: a8 :: a9 :: a10 :: a11 :: a12 :: a13 :: a14 :: (q, .int x) :: B) st T r l i Q := G_iinc15 hd hq hk (by rw [hv]; exact kk)
theorem G_drop15 {b0 : Nat × Value} {a0 a1 a2 a3 a4 a5 a6 a7 a8 a9 a10 a11 a12 a13 a14 : Nat × Value} {B : List (Nat × Value)} (kk : G Γ M k n pc (a0 :: a1 :: a2 :: a3 :: a4 :: a5 :: a6 :: a7 :: a8 :: a9 :: a10 :: a11 :: a12 :: a13 :: a14 :: B) st T r l i Q) : G Γ M k n pc (a0 :: a1 :: a2 :: a3 :: a4 :: a5 :: a6 :: a7 :: a8 :: a9 :: a10 :: a11 :: a12 :: a13 :: a14 :: b0 :: B) st T r l i Q := G_subL (fun y hy => by
  have h2 : y ∈ [a0, a1, a2, a3, a4, a5, a6, a7, a8, a9, a10, a11, a12, a13, a14] ++ B := hy
  show y ∈ [a0, a1, a2, a3, a4, a5, a6, a7, a8, a9, a10, a11, a12, a13, a14] ++ b0 :: B
  rcases List.mem_append.mp h2 with h | h
  · exact List.mem_append_left _ h
  · exact List.mem_append_right _ (List.mem_cons_of_mem _ h)) kk
theorem gV0 {idx ci b k' n' : Nat} {rest : List Value} (hd : decode M.2.1 pc = .ok (.invokevirtual idx, 3)) (hl : gLkV M.1.cls idx N 0 ci) (hR : gFits M.2.2.2.2 N.2.2.2.2 N.2.2.1) (hc : gCat rest ≤ 8) (hk' : k + N.2.2.2.2.cells = k') (hn' : n + N.2.2.2.2.slots = n') (hf : k' ≤ M.2.2.2.2.cells ∧ n' ≤ M.2.2.2.2.slots) (hb : (T.2 b).1 = ci) (h : gC Γ N (.ref b :: []) T r l i (fun v T1 r1 l1 i1 => G Γ M k' n' (pc + 3) L (gRt v rest) T1 r1 l1 i1 Q)) : G Γ M k n pc L (.ref b :: rest) T r l i Q := G_callV0 hd hl hR hc (by subst hk'; subst hn'; exact hf) hb (h.mono (fun v T1 r1 l1 i1 hG => by subst hk'; subst hn'; rw [gRt_eq] at hG; exact hG))
theorem gI0 {idx b k' n' : Nat} {rest : List Value} (hd : decode M.2.1 pc = .ok (.invokespecial idx, 3)) (hl : gLkI M.1.cls idx N 0) (hR : gFits M.2.2.2.2 N.2.2.2.2 N.2.2.1) (hc : gCat rest ≤ 8) (hk' : k + N.2.2.2.2.cells = k') (hn' : n + N.2.2.2.2.slots = n') (hf : k' ≤ M.2.2.2.2.cells ∧ n' ≤ M.2.2.2.2.slots) (h : gC Γ N [.ref b] T r l i (fun v T1 r1 l1 i1 => G Γ M k' n' (pc + 3) L (gRt v rest) T1 r1 l1 i1 Q)) : G Γ M k n pc L (.ref b :: rest) T r l i Q := G_callI0 hd hl hR hc (by subst hk'; subst hn'; exact hf) (h.mono (fun v T1 r1 l1 i1 hG => by subst hk'; subst hn'; rw [gRt_eq] at hG; exact hG))
theorem gV1 {idx ci b k' n' : Nat} {v1 : Value} {rest : List Value} (hd : decode M.2.1 pc = .ok (.invokevirtual idx, 3)) (hl : gLkV M.1.cls idx N 1 ci) (hR : gFits M.2.2.2.2 N.2.2.2.2 N.2.2.1) (hc : gCat rest ≤ 8) (hk' : k + N.2.2.2.2.cells = k') (hn' : n + N.2.2.2.2.slots = n') (hf : k' ≤ M.2.2.2.2.cells ∧ n' ≤ M.2.2.2.2.slots) (hb : (T.2 b).1 = ci) (h : gC Γ N (.ref b :: [v1]) T r l i (fun v T1 r1 l1 i1 => G Γ M k' n' (pc + 3) L (gRt v rest) T1 r1 l1 i1 Q)) : G Γ M k n pc L (v1 :: .ref b :: rest) T r l i Q := G_callV1 hd hl hR hc (by subst hk'; subst hn'; exact hf) hb (h.mono (fun v T1 r1 l1 i1 hG => by subst hk'; subst hn'; rw [gRt_eq] at hG; exact hG))
theorem gS1 {idx k' n' : Nat} {v1 : Value} {rest : List Value} (hd : decode M.2.1 pc = .ok (.invokestatic idx, 3)) (hl : gLkS M.1.cls idx N 1) (hR : gFits M.2.2.2.2 N.2.2.2.2 N.2.2.1) (hc : gCat rest ≤ 8) (hk' : k + N.2.2.2.2.cells = k') (hn' : n + N.2.2.2.2.slots = n') (hf : k' ≤ M.2.2.2.2.cells ∧ n' ≤ M.2.2.2.2.slots) (h : gC Γ N [v1] T r l i (fun v T1 r1 l1 i1 => G Γ M k' n' (pc + 3) L (gRt v rest) T1 r1 l1 i1 Q)) : G Γ M k n pc L (v1 :: rest) T r l i Q := G_callS1 hd hl hR hc (by subst hk'; subst hn'; exact hf) (h.mono (fun v T1 r1 l1 i1 hG => by subst hk'; subst hn'; rw [gRt_eq] at hG; exact hG))
theorem gV2 {idx ci b k' n' : Nat} {v1 v2 : Value} {rest : List Value} (hd : decode M.2.1 pc = .ok (.invokevirtual idx, 3)) (hl : gLkV M.1.cls idx N 2 ci) (hR : gFits M.2.2.2.2 N.2.2.2.2 N.2.2.1) (hc : gCat rest ≤ 8) (hk' : k + N.2.2.2.2.cells = k') (hn' : n + N.2.2.2.2.slots = n') (hf : k' ≤ M.2.2.2.2.cells ∧ n' ≤ M.2.2.2.2.slots) (hb : (T.2 b).1 = ci) (h : gC Γ N (.ref b :: [v1, v2]) T r l i (fun v T1 r1 l1 i1 => G Γ M k' n' (pc + 3) L (gRt v rest) T1 r1 l1 i1 Q)) : G Γ M k n pc L (v2 :: v1 :: .ref b :: rest) T r l i Q := G_callV2 hd hl hR hc (by subst hk'; subst hn'; exact hf) hb (h.mono (fun v T1 r1 l1 i1 hG => by subst hk'; subst hn'; rw [gRt_eq] at hG; exact hG))
theorem gS2 {idx k' n' : Nat} {v1 v2 : Value} {rest : List Value} (hd : decode M.2.1 pc = .ok (.invokestatic idx, 3)) (hl : gLkS M.1.cls idx N 2) (hR : gFits M.2.2.2.2 N.2.2.2.2 N.2.2.1) (hc : gCat rest ≤ 8) (hk' : k + N.2.2.2.2.cells = k') (hn' : n + N.2.2.2.2.slots = n') (hf : k' ≤ M.2.2.2.2.cells ∧ n' ≤ M.2.2.2.2.slots) (h : gC Γ N [v1, v2] T r l i (fun v T1 r1 l1 i1 => G Γ M k' n' (pc + 3) L (gRt v rest) T1 r1 l1 i1 Q)) : G Γ M k n pc L (v2 :: v1 :: rest) T r l i Q := G_callS2 hd hl hR hc (by subst hk'; subst hn'; exact hf) (h.mono (fun v T1 r1 l1 i1 hG => by subst hk'; subst hn'; rw [gRt_eq] at hG; exact hG))
theorem gV3 {idx ci b k' n' : Nat} {v1 v2 v3 : Value} {rest : List Value} (hd : decode M.2.1 pc = .ok (.invokevirtual idx, 3)) (hl : gLkV M.1.cls idx N 3 ci) (hR : gFits M.2.2.2.2 N.2.2.2.2 N.2.2.1) (hc : gCat rest ≤ 8) (hk' : k + N.2.2.2.2.cells = k') (hn' : n + N.2.2.2.2.slots = n') (hf : k' ≤ M.2.2.2.2.cells ∧ n' ≤ M.2.2.2.2.slots) (hb : (T.2 b).1 = ci) (h : gC Γ N (.ref b :: [v1, v2, v3]) T r l i (fun v T1 r1 l1 i1 => G Γ M k' n' (pc + 3) L (gRt v rest) T1 r1 l1 i1 Q)) : G Γ M k n pc L (v3 :: v2 :: v1 :: .ref b :: rest) T r l i Q := G_callV3 hd hl hR hc (by subst hk'; subst hn'; exact hf) hb (h.mono (fun v T1 r1 l1 i1 hG => by subst hk'; subst hn'; rw [gRt_eq] at hG; exact hG))
theorem gS3 {idx k' n' : Nat} {v1 v2 v3 : Value} {rest : List Value} (hd : decode M.2.1 pc = .ok (.invokestatic idx, 3)) (hl : gLkS M.1.cls idx N 3) (hR : gFits M.2.2.2.2 N.2.2.2.2 N.2.2.1) (hc : gCat rest ≤ 8) (hk' : k + N.2.2.2.2.cells = k') (hn' : n + N.2.2.2.2.slots = n') (hf : k' ≤ M.2.2.2.2.cells ∧ n' ≤ M.2.2.2.2.slots) (h : gC Γ N [v1, v2, v3] T r l i (fun v T1 r1 l1 i1 => G Γ M k' n' (pc + 3) L (gRt v rest) T1 r1 l1 i1 Q)) : G Γ M k n pc L (v3 :: v2 :: v1 :: rest) T r l i Q := G_callS3 hd hl hR hc (by subst hk'; subst hn'; exact hf) (h.mono (fun v T1 r1 l1 i1 hG => by subst hk'; subst hn'; rw [gRt_eq] at hG; exact hG))
theorem gV4 {idx ci b k' n' : Nat} {v1 v2 v3 v4 : Value} {rest : List Value} (hd : decode M.2.1 pc = .ok (.invokevirtual idx, 3)) (hl : gLkV M.1.cls idx N 4 ci) (hR : gFits M.2.2.2.2 N.2.2.2.2 N.2.2.1) (hc : gCat rest ≤ 8) (hk' : k + N.2.2.2.2.cells = k') (hn' : n + N.2.2.2.2.slots = n') (hf : k' ≤ M.2.2.2.2.cells ∧ n' ≤ M.2.2.2.2.slots) (hb : (T.2 b).1 = ci) (h : gC Γ N (.ref b :: [v1, v2, v3, v4]) T r l i (fun v T1 r1 l1 i1 => G Γ M k' n' (pc + 3) L (gRt v rest) T1 r1 l1 i1 Q)) : G Γ M k n pc L (v4 :: v3 :: v2 :: v1 :: .ref b :: rest) T r l i Q := G_callV4 hd hl hR hc (by subst hk'; subst hn'; exact hf) hb (h.mono (fun v T1 r1 l1 i1 hG => by subst hk'; subst hn'; rw [gRt_eq] at hG; exact hG))
theorem gS4 {idx k' n' : Nat} {v1 v2 v3 v4 : Value} {rest : List Value} (hd : decode M.2.1 pc = .ok (.invokestatic idx, 3)) (hl : gLkS M.1.cls idx N 4) (hR : gFits M.2.2.2.2 N.2.2.2.2 N.2.2.1) (hc : gCat rest ≤ 8) (hk' : k + N.2.2.2.2.cells = k') (hn' : n + N.2.2.2.2.slots = n') (hf : k' ≤ M.2.2.2.2.cells ∧ n' ≤ M.2.2.2.2.slots) (h : gC Γ N [v1, v2, v3, v4] T r l i (fun v T1 r1 l1 i1 => G Γ M k' n' (pc + 3) L (gRt v rest) T1 r1 l1 i1 Q)) : G Γ M k n pc L (v4 :: v3 :: v2 :: v1 :: rest) T r l i Q := G_callS4 hd hl hR hc (by subst hk'; subst hn'; exact hf) (h.mono (fun v T1 r1 l1 i1 hG => by subst hk'; subst hn'; rw [gRt_eq] at hG; exact hG))
theorem gV5 {idx ci b k' n' : Nat} {v1 v2 v3 v4 v5 : Value} {rest : List Value} (hd : decode M.2.1 pc = .ok (.invokevirtual idx, 3)) (hl : gLkV M.1.cls idx N 5 ci) (hR : gFits M.2.2.2.2 N.2.2.2.2 N.2.2.1) (hc : gCat rest ≤ 8) (hk' : k + N.2.2.2.2.cells = k') (hn' : n + N.2.2.2.2.slots = n') (hf : k' ≤ M.2.2.2.2.cells ∧ n' ≤ M.2.2.2.2.slots) (hb : (T.2 b).1 = ci) (h : gC Γ N (.ref b :: [v1, v2, v3, v4, v5]) T r l i (fun v T1 r1 l1 i1 => G Γ M k' n' (pc + 3) L (gRt v rest) T1 r1 l1 i1 Q)) : G Γ M k n pc L (v5 :: v4 :: v3 :: v2 :: v1 :: .ref b :: rest) T r l i Q := G_callV5 hd hl hR hc (by subst hk'; subst hn'; exact hf) hb (h.mono (fun v T1 r1 l1 i1 hG => by subst hk'; subst hn'; rw [gRt_eq] at hG; exact hG))
theorem gS5 {idx k' n' : Nat} {v1 v2 v3 v4 v5 : Value} {rest : List Value} (hd : decode M.2.1 pc = .ok (.invokestatic idx, 3)) (hl : gLkS M.1.cls idx N 5) (hR : gFits M.2.2.2.2 N.2.2.2.2 N.2.2.1) (hc : gCat rest ≤ 8) (hk' : k + N.2.2.2.2.cells = k') (hn' : n + N.2.2.2.2.slots = n') (hf : k' ≤ M.2.2.2.2.cells ∧ n' ≤ M.2.2.2.2.slots) (h : gC Γ N [v1, v2, v3, v4, v5] T r l i (fun v T1 r1 l1 i1 => G Γ M k' n' (pc + 3) L (gRt v rest) T1 r1 l1 i1 Q)) : G Γ M k n pc L (v5 :: v4 :: v3 :: v2 :: v1 :: rest) T r l i Q := G_callS5 hd hl hR hc (by subst hk'; subst hn'; exact hf) (h.mono (fun v T1 r1 l1 i1 hG => by subst hk'; subst hn'; rw [gRt_eq] at hG; exact hG))
theorem gV6 {idx ci b k' n' : Nat} {v1 v2 v3 v4 v5 v6 : Value} {rest : List Value} (hd : decode M.2.1 pc = .ok (.invokevirtual idx, 3)) (hl : gLkV M.1.cls idx N 6 ci) (hR : gFits M.2.2.2.2 N.2.2.2.2 N.2.2.1) (hc : gCat rest ≤ 8) (hk' : k + N.2.2.2.2.cells = k') (hn' : n + N.2.2.2.2.slots = n') (hf : k' ≤ M.2.2.2.2.cells ∧ n' ≤ M.2.2.2.2.slots) (hb : (T.2 b).1 = ci) (h : gC Γ N (.ref b :: [v1, v2, v3, v4, v5, v6]) T r l i (fun v T1 r1 l1 i1 => G Γ M k' n' (pc + 3) L (gRt v rest) T1 r1 l1 i1 Q)) : G Γ M k n pc L (v6 :: v5 :: v4 :: v3 :: v2 :: v1 :: .ref b :: rest) T r l i Q := G_callV6 hd hl hR hc (by subst hk'; subst hn'; exact hf) hb (h.mono (fun v T1 r1 l1 i1 hG => by subst hk'; subst hn'; rw [gRt_eq] at hG; exact hG))
theorem gS6 {idx k' n' : Nat} {v1 v2 v3 v4 v5 v6 : Value} {rest : List Value} (hd : decode M.2.1 pc = .ok (.invokestatic idx, 3)) (hl : gLkS M.1.cls idx N 6) (hR : gFits M.2.2.2.2 N.2.2.2.2 N.2.2.1) (hc : gCat rest ≤ 8) (hk' : k + N.2.2.2.2.cells = k') (hn' : n + N.2.2.2.2.slots = n') (hf : k' ≤ M.2.2.2.2.cells ∧ n' ≤ M.2.2.2.2.slots) (h : gC Γ N [v1, v2, v3, v4, v5, v6] T r l i (fun v T1 r1 l1 i1 => G Γ M k' n' (pc + 3) L (gRt v rest) T1 r1 l1 i1 Q)) : G Γ M k n pc L (v6 :: v5 :: v4 :: v3 :: v2 :: v1 :: rest) T r l i Q := G_callS6 hd hl hR hc (by subst hk'; subst hn'; exact hf) (h.mono (fun v T1 r1 l1 i1 hG => by subst hk'; subst hn'; rw [gRt_eq] at hG; exact hG))
end GM
end
section
/-! PURE: powers, the root, bounds -/
def gPow (b : Int64) : Nat → Int64
  | 0 => 1
  | e + 1 => gPow b e * b
def gRootL (v : Int64) : Nat → Int64 → Int64
  | 0, x => x
  | j + 1, x => gRootL v j (if (x + lN (2 ^ j)) * (x + lN (2 ^ j)) ≤ v then x + lN (2 ^ j) else x)
def gRoot (v : Int64) : Int64 := gRootL v 31 0
def gBit : Nat → Int64
  | 0 => 0
  | j + 1 => lN (2 ^ j)
theorem gBit_pos : ∀ j, j < 31 → ¬ gBit (j + 1) ≤ 0 := by decide +kernel
theorem gBit_shr : ∀ j, j < 31 → gBit (j + 1) >>> ((1 : Int32).toInt64 &&& 63) = gBit j := by decide +kernel
theorem gBit_div : ∀ j, j < 31 → gBit (j + 1) / 2 = gBit j := by decide +kernel
abbrev inB (x : Int64) : Prop := ¬ x < (-1024) ∧ ¬ 1024 < x
abbrev inI (x a b : Int32) : Prop := ¬ x < a ∧ ¬ b < x

set_option maxRecDepth 100000 in
set_option maxHeartbeats 4000000 in
theorem c_X11_isWithin {Γ : gG} {T : gTy} {r : gR} {l : gLg} {i : gI} {Q : gQ} {x a b : Int64} (hQ : Q (some (.int (gB (¬ x < a ∧ ¬ b < x)))) T r l i) : gC Γ MX11_isWithin [.long x, .long a, .long b] T r l i Q := by
  refine gC_of rfl (Nat.le_of_ble_eq_true rfl) (L := [(0, .long x), (2, .long a), (4, .long b)]) rfl ?_
  refine G_lload_n (pc := 0) 0 dX11_isWithin_0 rfl ?_
  refine G_lload_n (pc := 1) 1 dX11_isWithin_1 rfl ?_
  refine G_lif_lt (pc := 2) (tgt := 17) dX11_isWithin_2 dX11_isWithin_3 (by decide) (fun h2 => ?_) (fun h2 => ?_)
  · refine G_iconst (pc := 17) (v := 0) dX11_isWithin_17 rfl ?_
    refine G_iret (pc := 18) dX11_isWithin_18 ⟨_, rfl, rfl⟩ ⟨by decide, by decide⟩ ?_
    simpa [gB, h2] using hQ
  · refine G_lload_n (pc := 6) 0 dX11_isWithin_6 rfl ?_
    refine G_lload (pc := 7) 2 dX11_isWithin_7 rfl ?_
    refine G_lif_gt (pc := 9) (tgt := 17) dX11_isWithin_9 dX11_isWithin_10 (by decide) (fun h9 => ?_) (fun h9 => ?_)
    · refine G_iconst (pc := 17) (v := 0) dX11_isWithin_17 rfl ?_
      refine G_iret (pc := 18) dX11_isWithin_18 ⟨_, rfl, rfl⟩ ⟨by decide, by decide⟩ ?_
      simpa [gB, h2, h9] using hQ
    · refine G_iconst (pc := 13) (v := 1) dX11_isWithin_13 rfl ?_
      refine G_goto (pc := 14) (tgt := 18) dX11_isWithin_14 (by decide) ?_
      refine G_iret (pc := 18) dX11_isWithin_18 ⟨_, rfl, rfl⟩ ⟨by decide, by decide⟩ ?_
      simpa [gB, h2, h9] using hQ

set_option maxRecDepth 100000 in
set_option maxHeartbeats 4000000 in
theorem c_X11_isSign {Γ : gG} {T : gTy} {r : gR} {l : gLg} {i : gI} {Q : gQ} {x : Int32} (hQ : Q (some (.int (gB (x = 1 ∨ x = (-1))))) T r l i) : gC Γ MX11_isSign [.int x] T r l i Q := by
  refine gC_of rfl (Nat.le_of_ble_eq_true rfl) (L := [(0, .int x)]) rfl ?_
  refine G_iload_n (pc := 0) 0 dX11_isSign_0 rfl ?_
  refine G_iconst (pc := 1) (v := 1) dX11_isSign_1 rfl ?_
  refine G_icmp_eq (pc := 2) (tgt := 10) dX11_isSign_2 (by decide) (fun h2 => ?_) (fun h2 => ?_)
  · refine G_iconst (pc := 10) (v := 1) dX11_isSign_10 rfl ?_
    refine G_goto (pc := 11) (tgt := 15) dX11_isSign_11 (by decide) ?_
    refine G_iret (pc := 15) dX11_isSign_15 ⟨_, rfl, rfl⟩ ⟨by decide, by decide⟩ ?_
    simpa [gB, h2] using hQ
  · refine G_iload_n (pc := 5) 0 dX11_isSign_5 rfl ?_
    refine G_iconst (pc := 6) (v := (-1)) dX11_isSign_6 rfl ?_
    refine G_icmp_ne (pc := 7) (tgt := 14) dX11_isSign_7 (by decide) (fun h7 => ?_) (fun h7 => ?_)
    · refine G_iconst (pc := 14) (v := 0) dX11_isSign_14 rfl ?_
      refine G_iret (pc := 15) dX11_isSign_15 ⟨_, rfl, rfl⟩ ⟨by decide, by decide⟩ ?_
      simpa [gB, h2, h7] using hQ
    · refine G_iconst (pc := 10) (v := 1) dX11_isSign_10 rfl ?_
      refine G_goto (pc := 11) (tgt := 15) dX11_isSign_11 (by decide) ?_
      refine G_iret (pc := 15) dX11_isSign_15 ⟨_, rfl, rfl⟩ ⟨by decide, by decide⟩ ?_
      simpa [gB, h2, h7] using hQ

set_option maxRecDepth 100000 in
set_option maxHeartbeats 4000000 in
theorem c_X12_isSide {Γ : gG} {T : gTy} {r : gR} {l : gLg} {i : gI} {Q : gQ} {x : Int32} (hQ : Q (some (.int (gB (x = 1 ∨ x = (-1))))) T r l i) : gC Γ MX12_isSide [.int x] T r l i Q := by
  refine gC_of rfl (Nat.le_of_ble_eq_true rfl) (L := [(0, .int x)]) rfl ?_
  refine G_iload_n (pc := 0) 0 dX12_isSide_0 rfl ?_
  refine G_iconst (pc := 1) (v := 1) dX12_isSide_1 rfl ?_
  refine G_icmp_eq (pc := 2) (tgt := 10) dX12_isSide_2 (by decide) (fun h2 => ?_) (fun h2 => ?_)
  · refine G_iconst (pc := 10) (v := 1) dX12_isSide_10 rfl ?_
    refine G_goto (pc := 11) (tgt := 15) dX12_isSide_11 (by decide) ?_
    refine G_iret (pc := 15) dX12_isSide_15 ⟨_, rfl, rfl⟩ ⟨by decide, by decide⟩ ?_
    simpa [gB, h2] using hQ
  · refine G_iload_n (pc := 5) 0 dX12_isSide_5 rfl ?_
    refine G_iconst (pc := 6) (v := (-1)) dX12_isSide_6 rfl ?_
    refine G_icmp_ne (pc := 7) (tgt := 14) dX12_isSide_7 (by decide) (fun h7 => ?_) (fun h7 => ?_)
    · refine G_iconst (pc := 14) (v := 0) dX12_isSide_14 rfl ?_
      refine G_iret (pc := 15) dX12_isSide_15 ⟨_, rfl, rfl⟩ ⟨by decide, by decide⟩ ?_
      simpa [gB, h2, h7] using hQ
    · refine G_iconst (pc := 10) (v := 1) dX12_isSide_10 rfl ?_
      refine G_goto (pc := 11) (tgt := 15) dX12_isSide_11 (by decide) ?_
      refine G_iret (pc := 15) dX12_isSide_15 ⟨_, rfl, rfl⟩ ⟨by decide, by decide⟩ ?_
      simpa [gB, h2, h7] using hQ

set_option maxRecDepth 100000 in
set_option maxHeartbeats 4000000 in
theorem c_X12_in {Γ : gG} {T : gTy} {r : gR} {l : gLg} {i : gI} {Q : gQ} {x a b : Int32} (hQ : Q (some (.int (gB (inI x a b)))) T r l i) : gC Γ MX12_in [.int x, .int a, .int b] T r l i Q := by
  refine gC_of rfl (Nat.le_of_ble_eq_true rfl) (L := [(0, .int x), (1, .int a), (2, .int b)]) rfl ?_
  refine G_iload_n (pc := 0) 0 dX12_in_0 rfl ?_
  refine G_iload_n (pc := 1) 1 dX12_in_1 rfl ?_
  refine G_icmp_lt (pc := 2) (tgt := 14) dX12_in_2 (by decide) (fun h2 => ?_) (fun h2 => ?_)
  · refine G_iconst (pc := 14) (v := 0) dX12_in_14 rfl ?_
    refine G_iret (pc := 15) dX12_in_15 ⟨_, rfl, rfl⟩ ⟨by decide, by decide⟩ ?_
    simpa [gB, inI, h2] using hQ
  · refine G_iload_n (pc := 5) 0 dX12_in_5 rfl ?_
    refine G_iload_n (pc := 6) 2 dX12_in_6 rfl ?_
    refine G_icmp_gt (pc := 7) (tgt := 14) dX12_in_7 (by decide) (fun h7 => ?_) (fun h7 => ?_)
    · refine G_iconst (pc := 14) (v := 0) dX12_in_14 rfl ?_
      refine G_iret (pc := 15) dX12_in_15 ⟨_, rfl, rfl⟩ ⟨by decide, by decide⟩ ?_
      simpa [gB, inI, h2, h7] using hQ
    · refine G_iconst (pc := 10) (v := 1) dX12_in_10 rfl ?_
      refine G_goto (pc := 11) (tgt := 15) dX12_in_11 (by decide) ?_
      refine G_iret (pc := 15) dX12_in_15 ⟨_, rfl, rfl⟩ ⟨by decide, by decide⟩ ?_
      simpa [gB, inI, h2, h7] using hQ

set_option maxRecDepth 100000 in
set_option maxHeartbeats 4000000 in
theorem c_X12_isIn {Γ : gG} {T : gTy} {r : gR} {l : gLg} {i : gI} {Q : gQ} {x : Int32} (hQ : Q (some (.int (gB (inI x (-1024) 1024)))) T r l i) : gC Γ MX12_isIn [.int x] T r l i Q := by
  refine gC_of rfl (Nat.le_of_ble_eq_true rfl) (L := [(0, .int x)]) rfl ?_
  refine G_iload_n (pc := 0) 0 dX12_isIn_0 rfl ?_
  refine G_sipush (pc := 1) (v := (-1024)) dX12_isIn_1 rfl ?_
  refine G_sipush (pc := 4) (v := 1024) dX12_isIn_4 rfl ?_
  refine gS3 (pc := 7) (k' := 0) (n' := 0) dX12_isIn_7 lkX12_25 ⟨by decide, by decide⟩ (Nat.le_of_ble_eq_true rfl) rfl rfl ⟨by decide, by decide⟩ (c_X12_in ?_)
  dsimp only [gRt]
  refine G_iret (pc := 10) dX12_isIn_10 ⟨_, rfl, gB_nar⟩ ⟨by decide, by decide⟩ ?_
  exact hQ

set_option maxRecDepth 100000 in
set_option maxHeartbeats 4000000 in
theorem c_X11_isPlace {Γ : gG} {T : gTy} {r : gR} {l : gLg} {i : gI} {Q : gQ} {x y : Int64} (hQ : Q (some (.int (gB (inB x ∧ inB y)))) T r l i) : gC Γ MX11_isPlace [.long x, .long y] T r l i Q := by
  refine gC_of rfl (Nat.le_of_ble_eq_true rfl) (L := [(0, .long x), (2, .long y)]) rfl ?_
  refine G_lload_n (pc := 0) 0 dX11_isPlace_0 rfl ?_
  refine G_ldc2 (pc := 1) dX11_isPlace_1 kcX11_262 ?_
  refine G_ldc2 (pc := 4) dX11_isPlace_4 kcX11_264 ?_
  refine gS3 (pc := 7) (k' := 0) (n' := 0) dX11_isPlace_7 lkX11_48 ⟨by decide, by decide⟩ (Nat.le_of_ble_eq_true rfl) rfl rfl ⟨by decide, by decide⟩ (c_X11_isWithin ?_)
  dsimp only [gRt]
  refine G_if_eq (pc := 10) (tgt := 30) dX11_isPlace_10 (by decide) (fun h10 => ?_) (fun h10 => ?_)
  · refine G_iconst (pc := 30) (v := 0) dX11_isPlace_30 rfl ?_
    refine G_iret (pc := 31) dX11_isPlace_31 ⟨_, rfl, rfl⟩ ⟨by decide, by decide⟩ ?_
    have h10 := gB_eq.mp h10
    rw [gB_f (fun q => h10 q.1)] at hQ
    exact hQ
  · refine G_lload_n (pc := 13) 1 dX11_isPlace_13 rfl ?_
    refine G_ldc2 (pc := 14) dX11_isPlace_14 kcX11_262 ?_
    refine G_ldc2 (pc := 17) dX11_isPlace_17 kcX11_264 ?_
    refine gS3 (pc := 20) (k' := 0) (n' := 0) dX11_isPlace_20 lkX11_48 ⟨by decide, by decide⟩ (Nat.le_of_ble_eq_true rfl) rfl rfl ⟨by decide, by decide⟩ (c_X11_isWithin ?_)
    dsimp only [gRt]
    refine G_if_eq (pc := 23) (tgt := 30) dX11_isPlace_23 (by decide) (fun h23 => ?_) (fun h23 => ?_)
    · refine G_iconst (pc := 30) (v := 0) dX11_isPlace_30 rfl ?_
      refine G_iret (pc := 31) dX11_isPlace_31 ⟨_, rfl, rfl⟩ ⟨by decide, by decide⟩ ?_
      have h23 := gB_eq.mp h23
      rw [gB_f (fun q => h23 q.2)] at hQ
      exact hQ
    · refine G_iconst (pc := 26) (v := 1) dX11_isPlace_26 rfl ?_
      refine G_goto (pc := 27) (tgt := 31) dX11_isPlace_27 (by decide) ?_
      refine G_iret (pc := 31) dX11_isPlace_31 ⟨_, rfl, rfl⟩ ⟨by decide, by decide⟩ ?_
      rw [gB_t ⟨gB_ne.mp h10, gB_ne.mp h23⟩] at hQ
      exact hQ

set_option maxRecDepth 100000 in
set_option maxHeartbeats 4000000 in
theorem lp_X11_power {Γ : gG} {T : gTy} {r : gR} {l : gLg} {i : gI} {Q : gQ} {b : Int64} {e : Nat} (he : e < 2 ^ 31) (hQ : Q (some (.long (gPow b e))) T r l i) : ∀ d k, k + d = e → G Γ MX11_power 0 0 5 [(0, .long b), (2, .int (nI e)), (3, .long (gPow b k)), (5, .int (nI k))] [] T r l i Q := by
  intro d
  induction d with
  | zero =>
    intro k hk
    obtain rfl : k = e := by omega
    refine G_iload (pc := 5) 3 dX11_power_5 rfl ?_
    refine G_iload_n (pc := 7) 1 dX11_power_7 rfl ?_
    refine G_icmp_ge (pc := 8) (tgt := 21) dX11_power_8 (by decide) (fun h8 => ?_) (fun h8 => ?_)
    · refine G_lload_n (pc := 21) 2 dX11_power_21 rfl ?_
      refine G_lret (pc := 22) dX11_power_22 rfl ⟨by decide, by decide⟩ ?_
      exact hQ
    · exact absurd (Int32.le_refl _) h8
  | succ d ih =>
    intro k hk
    refine G_iload (pc := 5) 3 dX11_power_5 rfl ?_
    refine G_iload_n (pc := 7) 1 dX11_power_7 rfl ?_
    refine G_icmp_ge (pc := 8) (tgt := 21) dX11_power_8 (by decide) (fun h8 => ?_) (fun h8 => ?_)
    · exact absurd h8 (nI_ge (by omega) (by omega))
    · refine G_lload_n (pc := 11) 2 dX11_power_11 rfl ?_
      refine G_lload_n (pc := 12) 0 dX11_power_12 rfl ?_
      refine G_lmul (pc := 13) dX11_power_13 ?_
      refine G_st2 (pc := 14) (gSt_ln dX11_power_14 rfl (by decide)) rfl ?_
      refine G_inc3 (pc := 15) (v := 1) dX11_power_15 rfl (by decide) rfl ?_
      refine G_goto (pc := 18) (tgt := 5) dX11_power_18 (by decide) ?_
      rw [nI_1]
      exact ih (k + 1) (by omega)

set_option maxRecDepth 100000 in
set_option maxHeartbeats 4000000 in
theorem c_X11_power {Γ : gG} {T : gTy} {r : gR} {l : gLg} {i : gI} {Q : gQ} {b : Int64} {e : Nat} (he : e < 2 ^ 31) (hQ : Q (some (.long (gPow b e))) T r l i) : gC Γ MX11_power [.long b, .int (nI e)] T r l i Q := by
  refine gC_of rfl (Nat.le_of_ble_eq_true rfl) (L := [(0, .long b), (2, .int (nI e))]) rfl ?_
  refine G_lconst (pc := 0) (v := 1) dX11_power_0 rfl ?_
  refine G_sn2 (pc := 1) (gSt_ln dX11_power_1 rfl (by decide)) rfl ?_
  refine G_iconst (pc := 2) (v := 0) dX11_power_2 rfl ?_
  refine G_sn3 (pc := 3) (gSt_i dX11_power_3 (by decide)) rfl ?_
  exact lp_X11_power he hQ e 0 (Nat.zero_add e)

set_option maxRecDepth 100000 in
set_option maxHeartbeats 4000000 in
theorem lp_X12_power {Γ : gG} {T : gTy} {r : gR} {l : gLg} {i : gI} {Q : gQ} {b : Int64} {e : Nat} (he : e < 2 ^ 31) (hQ : Q (some (.long (gPow b e))) T r l i) : ∀ d k, k + d = e → G Γ MX12_power 0 0 5 [(0, .long b), (2, .int (nI e)), (3, .long (gPow b k)), (5, .int (nI k))] [] T r l i Q := by
  intro d
  induction d with
  | zero =>
    intro k hk
    obtain rfl : k = e := by omega
    refine G_iload (pc := 5) 3 dX12_power_5 rfl ?_
    refine G_iload_n (pc := 7) 1 dX12_power_7 rfl ?_
    refine G_icmp_ge (pc := 8) (tgt := 21) dX12_power_8 (by decide) (fun h8 => ?_) (fun h8 => ?_)
    · refine G_lload_n (pc := 21) 2 dX12_power_21 rfl ?_
      refine G_lret (pc := 22) dX12_power_22 rfl ⟨by decide, by decide⟩ ?_
      exact hQ
    · exact absurd (Int32.le_refl _) h8
  | succ d ih =>
    intro k hk
    refine G_iload (pc := 5) 3 dX12_power_5 rfl ?_
    refine G_iload_n (pc := 7) 1 dX12_power_7 rfl ?_
    refine G_icmp_ge (pc := 8) (tgt := 21) dX12_power_8 (by decide) (fun h8 => ?_) (fun h8 => ?_)
    · exact absurd h8 (nI_ge (by omega) (by omega))
    · refine G_lload_n (pc := 11) 2 dX12_power_11 rfl ?_
      refine G_lload_n (pc := 12) 0 dX12_power_12 rfl ?_
      refine G_lmul (pc := 13) dX12_power_13 ?_
      refine G_st2 (pc := 14) (gSt_ln dX12_power_14 rfl (by decide)) rfl ?_
      refine G_inc3 (pc := 15) (v := 1) dX12_power_15 rfl (by decide) rfl ?_
      refine G_goto (pc := 18) (tgt := 5) dX12_power_18 (by decide) ?_
      rw [nI_1]
      exact ih (k + 1) (by omega)

set_option maxRecDepth 100000 in
set_option maxHeartbeats 4000000 in
theorem c_X12_power {Γ : gG} {T : gTy} {r : gR} {l : gLg} {i : gI} {Q : gQ} {b : Int64} {e : Nat} (he : e < 2 ^ 31) (hQ : Q (some (.long (gPow b e))) T r l i) : gC Γ MX12_power [.long b, .int (nI e)] T r l i Q := by
  refine gC_of rfl (Nat.le_of_ble_eq_true rfl) (L := [(0, .long b), (2, .int (nI e))]) rfl ?_
  refine G_lconst (pc := 0) (v := 1) dX12_power_0 rfl ?_
  refine G_sn2 (pc := 1) (gSt_ln dX12_power_1 rfl (by decide)) rfl ?_
  refine G_iconst (pc := 2) (v := 0) dX12_power_2 rfl ?_
  refine G_sn3 (pc := 3) (gSt_i dX12_power_3 (by decide)) rfl ?_
  exact lp_X12_power he hQ e 0 (Nat.zero_add e)

set_option maxRecDepth 100000 in
set_option maxHeartbeats 4000000 in
theorem lp_X11_rootOf {Γ : gG} {T : gTy} {r : gR} {l : gLg} {i : gI} {Q : gQ} {v : Int64}  : ∀ d x, d ≤ 31 → Q (some (.long (gRootL v d x))) T r l i → G Γ MX11_rootOf 0 0 7 [(0, .long v), (2, .long x), (4, .long (gBit d))] [] T r l i Q := by
  intro d
  induction d with
  | zero =>
    intro x _ hQ
    refine G_lload (pc := 7) 2 dX11_rootOf_7 rfl ?_
    refine G_lconst (pc := 9) (v := 0) dX11_rootOf_9 rfl ?_
    refine G_lif_le (pc := 10) (tgt := 42) dX11_rootOf_10 dX11_rootOf_11 (by decide) (fun h10 => ?_) (fun h10 => ?_)
    · refine G_lload_n (pc := 42) 1 dX11_rootOf_42 rfl ?_
      refine G_lret (pc := 43) dX11_rootOf_43 rfl ⟨by decide, by decide⟩ ?_
      exact hQ
    · exact absurd (by decide) h10
  | succ d ih =>
    intro x hd hQ
    refine G_lload (pc := 7) 2 dX11_rootOf_7 rfl ?_
    refine G_lconst (pc := 9) (v := 0) dX11_rootOf_9 rfl ?_
    refine G_lif_le (pc := 10) (tgt := 42) dX11_rootOf_10 dX11_rootOf_11 (by decide) (fun h10 => ?_) (fun h10 => ?_)
    · exact absurd h10 (gBit_pos d (by omega))
    · refine G_lload_n (pc := 14) 1 dX11_rootOf_14 rfl ?_
      refine G_lload (pc := 15) 2 dX11_rootOf_15 rfl ?_
      refine G_ladd (pc := 17) dX11_rootOf_17 ?_
      refine G_sn3 (pc := 18) (gSt_l dX11_rootOf_18 (by decide)) rfl ?_
      refine G_lload (pc := 20) 3 dX11_rootOf_20 rfl ?_
      refine G_lload (pc := 22) 3 dX11_rootOf_22 rfl ?_
      refine G_lmul (pc := 24) dX11_rootOf_24 ?_
      refine G_lload_n (pc := 25) 0 dX11_rootOf_25 rfl ?_
      refine G_lif_gt (pc := 26) (tgt := 33) dX11_rootOf_26 dX11_rootOf_27 (by decide) (fun h26 => ?_) (fun h26 => ?_)
      · refine G_lload (pc := 33) 2 dX11_rootOf_33 rfl ?_
        refine G_iconst (pc := 35) (v := 1) dX11_rootOf_35 rfl ?_
        refine G_lshr (pc := 36) dX11_rootOf_36 ?_
        refine G_st2 (pc := 37) (gSt_l dX11_rootOf_37 (by decide)) rfl ?_
        refine G_goto (pc := 39) (tgt := 7) dX11_rootOf_39 (by decide) ?_
        refine G_drop3 ?_
        rw [gBit_shr d (by omega)]
        refine ih x (by omega) ?_
        have hc : ¬ (x + lN (2 ^ d)) * (x + lN (2 ^ d)) ≤ v := Int64.not_le.mpr h26
        unfold gRootL at hQ
        rw [if_neg hc] at hQ
        exact hQ
      · refine G_lload (pc := 30) 3 dX11_rootOf_30 rfl ?_
        refine G_st1 (pc := 32) (gSt_ln dX11_rootOf_32 rfl (by decide)) rfl ?_
        refine G_lload (pc := 33) 2 dX11_rootOf_33 rfl ?_
        refine G_iconst (pc := 35) (v := 1) dX11_rootOf_35 rfl ?_
        refine G_lshr (pc := 36) dX11_rootOf_36 ?_
        refine G_st2 (pc := 37) (gSt_l dX11_rootOf_37 (by decide)) rfl ?_
        refine G_goto (pc := 39) (tgt := 7) dX11_rootOf_39 (by decide) ?_
        refine G_drop3 ?_
        rw [gBit_shr d (by omega)]
        refine ih (x + lN (2 ^ d)) (by omega) ?_
        have hc : (x + lN (2 ^ d)) * (x + lN (2 ^ d)) ≤ v := Int64.not_lt.mp h26
        unfold gRootL at hQ
        rw [if_pos hc] at hQ
        exact hQ

set_option maxRecDepth 100000 in
set_option maxHeartbeats 4000000 in
theorem c_X11_rootOf {Γ : gG} {T : gTy} {r : gR} {l : gLg} {i : gI} {Q : gQ} {v : Int64} (hQ : Q (some (.long (gRoot v))) T r l i) : gC Γ MX11_rootOf [.long v] T r l i Q := by
  refine gC_of rfl (Nat.le_of_ble_eq_true rfl) (L := [(0, .long v)]) rfl ?_
  refine G_lconst (pc := 0) (v := 0) dX11_rootOf_0 rfl ?_
  refine G_sn1 (pc := 1) (gSt_ln dX11_rootOf_1 rfl (by decide)) rfl ?_
  refine G_ldc2 (pc := 2) dX11_rootOf_2 kcX11_306 ?_
  refine G_sn2 (pc := 5) (gSt_l dX11_rootOf_5 (by decide)) rfl ?_
  exact lp_X11_rootOf 31 0 (Nat.le_refl 31) hQ

set_option maxRecDepth 100000 in
set_option maxHeartbeats 4000000 in
theorem lp_X12_root {Γ : gG} {T : gTy} {r : gR} {l : gLg} {i : gI} {Q : gQ} {v : Int64}  : ∀ d x, d ≤ 31 → Q (some (.long (gRootL v d x))) T r l i → G Γ MX12_root 0 0 7 [(0, .long v), (2, .long x), (4, .long (gBit d))] [] T r l i Q := by
  intro d
  induction d with
  | zero =>
    intro x _ hQ
    refine G_lload (pc := 7) 2 dX12_root_7 rfl ?_
    refine G_lconst (pc := 9) (v := 0) dX12_root_9 rfl ?_
    refine G_lif_le (pc := 10) (tgt := 48) dX12_root_10 dX12_root_11 (by decide) (fun h10 => ?_) (fun h10 => ?_)
    · refine G_lload_n (pc := 48) 1 dX12_root_48 rfl ?_
      refine G_lret (pc := 49) dX12_root_49 rfl ⟨by decide, by decide⟩ ?_
      exact hQ
    · exact absurd (by decide) h10
  | succ d ih =>
    intro x hd hQ
    refine G_lload (pc := 7) 2 dX12_root_7 rfl ?_
    refine G_lconst (pc := 9) (v := 0) dX12_root_9 rfl ?_
    refine G_lif_le (pc := 10) (tgt := 48) dX12_root_10 dX12_root_11 (by decide) (fun h10 => ?_) (fun h10 => ?_)
    · exact absurd h10 (gBit_pos d (by omega))
    · refine G_lload_n (pc := 14) 1 dX12_root_14 rfl ?_
      refine G_lload (pc := 15) 2 dX12_root_15 rfl ?_
      refine G_ladd (pc := 17) dX12_root_17 ?_
      refine G_lload_n (pc := 18) 1 dX12_root_18 rfl ?_
      refine G_lload (pc := 19) 2 dX12_root_19 rfl ?_
      refine G_ladd (pc := 21) dX12_root_21 ?_
      refine G_lmul (pc := 22) dX12_root_22 ?_
      refine G_lload_n (pc := 23) 0 dX12_root_23 rfl ?_
      refine G_lif_gt (pc := 24) (tgt := 35) dX12_root_24 dX12_root_25 (by decide) (fun h24 => ?_) (fun h24 => ?_)
      · refine G_lload_n (pc := 35) 1 dX12_root_35 rfl ?_
        refine G_st1 (pc := 36) (gSt_ln dX12_root_36 rfl (by decide)) rfl ?_
        refine G_lload (pc := 37) 2 dX12_root_37 rfl ?_
        refine G_ldc2 (pc := 39) dX12_root_39 kcX12_53 ?_
        refine G_ldiv (pc := 42) dX12_root_42 (by decide) ?_
        refine G_st2 (pc := 43) (gSt_l dX12_root_43 (by decide)) rfl ?_
        refine G_goto (pc := 45) (tgt := 7) dX12_root_45 (by decide) ?_
        rw [gBit_div d (by omega)]
        refine ih x (by omega) ?_
        have hc : ¬ (x + lN (2 ^ d)) * (x + lN (2 ^ d)) ≤ v := Int64.not_le.mpr h24
        unfold gRootL at hQ
        rw [if_neg hc] at hQ
        exact hQ
      · refine G_lload_n (pc := 28) 1 dX12_root_28 rfl ?_
        refine G_lload (pc := 29) 2 dX12_root_29 rfl ?_
        refine G_ladd (pc := 31) dX12_root_31 ?_
        refine G_goto (pc := 32) (tgt := 36) dX12_root_32 (by decide) ?_
        refine G_st1 (pc := 36) (gSt_ln dX12_root_36 rfl (by decide)) rfl ?_
        refine G_lload (pc := 37) 2 dX12_root_37 rfl ?_
        refine G_ldc2 (pc := 39) dX12_root_39 kcX12_53 ?_
        refine G_ldiv (pc := 42) dX12_root_42 (by decide) ?_
        refine G_st2 (pc := 43) (gSt_l dX12_root_43 (by decide)) rfl ?_
        refine G_goto (pc := 45) (tgt := 7) dX12_root_45 (by decide) ?_
        rw [gBit_div d (by omega)]
        refine ih (x + lN (2 ^ d)) (by omega) ?_
        have hc : (x + lN (2 ^ d)) * (x + lN (2 ^ d)) ≤ v := Int64.not_lt.mp h24
        unfold gRootL at hQ
        rw [if_pos hc] at hQ
        exact hQ

set_option maxRecDepth 100000 in
set_option maxHeartbeats 4000000 in
theorem c_X12_root {Γ : gG} {T : gTy} {r : gR} {l : gLg} {i : gI} {Q : gQ} {v : Int64} (hQ : Q (some (.long (gRoot v))) T r l i) : gC Γ MX12_root [.long v] T r l i Q := by
  refine gC_of rfl (Nat.le_of_ble_eq_true rfl) (L := [(0, .long v)]) rfl ?_
  refine G_lconst (pc := 0) (v := 0) dX12_root_0 rfl ?_
  refine G_sn1 (pc := 1) (gSt_ln dX12_root_1 rfl (by decide)) rfl ?_
  refine G_ldc2 (pc := 2) dX12_root_2 kcX12_51 ?_
  refine G_sn2 (pc := 5) (gSt_l dX12_root_5 (by decide)) rfl ?_
  exact lp_X12_root 31 0 (Nat.le_refl 31) hQ
end
section
/-! layouts: an object and what it holds, made in one stretch -/
def lyT (T : gTy) (r : gR) (a : Nat) : Prop := (T.2 a).1 = 7 ∧ r a 0 = some (a + 1) ∧ r a 1 = some (a + 2) ∧ r a 2 = some (a + 3) ∧ T.2 (a + 1) = (13, 6) ∧ T.2 (a + 2) = (13, 6) ∧ T.2 (a + 3) = (13, 6)
def lySe (T : gTy) (r : gR) (a : Nat) : Prop := (T.2 a).1 = 4 ∧ r a 0 = some (a + 1) ∧ T.2 (a + 1) = (13, 3)
/-- the terms at a: n of them, factors f, powers p and q -/
def tv (i : gI) (a n : Nat) (f : Nat → Int32) (p q : Nat → Nat) : Prop := n ≤ 6 ∧ i a 3 = nI n ∧ ∀ k, k < n → i (a + 1) k = f k ∧ i (a + 2) k = nI (p k) ∧ i (a + 3) k = nI (q k) ∧ p k + q k ≤ 3
/-! PURE: what terms give -/
def gW (f : Nat → Int32) (p q : Nat → Nat) (k : Nat) : Int64 := (f k).toInt64 * gPow 256 (3 - p k - q k)
def gvn (f : Nat → Int32) (p q : Nat → Nat) (x y : Int64) (w k : Nat) : Int64 :=
  if w = 1 then (if p k = 0 then 0 else gW f p q k * (nI (p k)).toInt64 * gPow x (p k - 1) * gPow y (q k))
  else if w = 2 then (if q k = 0 then 0 else gW f p q k * (nI (q k)).toInt64 * gPow x (p k) * gPow y (q k - 1))
  else gW f p q k * gPow x (p k) * gPow y (q k)
def gSum (f : Nat → Int32) (p q : Nat → Nat) (x y : Int64) (w : Nat) : Nat → Int64
  | 0 => 0
  | k + 1 => gSum f p q x y w k + gvn f p q x y w k
abbrev gGG (f : Nat → Int32) (p q : Nat → Nat) (n : Nat) (x y : Int64) : Int64 := gSum f p q x y 1 n * gSum f p q x y 1 n + gSum f p q x y 2 n * gSum f p q x y 2 n
def gCor (f : Nat → Int32) (p q : Nat → Nat) (n : Nat) : Nat → Nat → Int64 → Int64 → Option (Int64 × Int64 × Nat)
  | 0, _, _, _ => none
  | m + 1, rd, x, y => if inB x ∧ inB y then (if gGG f p q n x y = 0 then none else if gSum f p q x y 0 n * gSum f p q x y 1 n / gGG f p q n x y = 0 ∧ gSum f p q x y 0 n * gSum f p q x y 2 n / gGG f p q n x y = 0 then some (x, y, rd + 1) else gCor f p q n m (rd + 1) (x - gSum f p q x y 0 n * gSum f p q x y 1 n / gGG f p q n x y) (y - gSum f p q x y 0 n * gSum f p q x y 2 n / gGG f p q n x y)) else none
/-- a spot's three longs -/
def sp3 (l : gLg) (a : Nat) (F X Y : Int64) : gLg := va_up l a (fun j => if j = 0 then F else if j = 1 then X else if j = 2 then Y else l a j)
theorem sp3_0 {l : gLg} {a : Nat} {F X Y : Int64} : sp3 l a F X Y a 0 = F := by simp [sp3, va_up]
theorem sp3_1 {l : gLg} {a : Nat} {F X Y : Int64} : sp3 l a F X Y a 1 = X := by simp [sp3, va_up]
theorem sp3_2 {l : gLg} {a : Nat} {F X Y : Int64} : sp3 l a F X Y a 2 = Y := by simp [sp3, va_up]
theorem sp3_ne {l : gLg} {a b : Nat} {F X Y : Int64} (h : b ≠ a) : sp3 l a F X Y b = l b := by simp [sp3, va_up, h]
theorem sp3_p0 {l : gLg} {a : Nat} {F X Y Z : Int64} : up2 (sp3 l a F X Y) a 0 Z = sp3 l a Z X Y := by
  funext b j; by_cases hb : b = a <;> simp [up2, sp3, va_up, hb] <;> (by_cases h0 : j = 0 <;> simp [h0])
theorem sp3_p1 {l : gLg} {a : Nat} {F X Y Z : Int64} : up2 (sp3 l a F X Y) a 1 Z = sp3 l a F Z Y := by
  funext b j; by_cases hb : b = a <;> simp [up2, sp3, va_up, hb] <;> (by_cases h0 : j = 0 <;> by_cases h1 : j = 1 <;> simp [h0, h1])
theorem sp3_p2 {l : gLg} {a : Nat} {F X Y Z : Int64} : up2 (sp3 l a F X Y) a 2 Z = sp3 l a F X Z := by
  funext b j; by_cases hb : b = a <;> simp [up2, sp3, va_up, hb] <;> (by_cases h0 : j = 0 <;> by_cases h1 : j = 1 <;> by_cases h2 : j = 2 <;> simp [h0, h1, h2])
theorem sp3_000 {l : gLg} {a : Nat} : up2 (up2 (up2 l a 0 0) a 1 0) a 2 0 = sp3 l a 0 0 0 := by
  funext b j; by_cases hb : b = a <;> simp [up2, sp3, va_up, hb] <;> (by_cases h0 : j = 0 <;> by_cases h1 : j = 1 <;> by_cases h2 : j = 2 <;> simp [h0, h1, h2])
theorem nI_pr {k : Nat} (h : ¬ nI k < 1) : nI k - 1 = nI (k - 1) := by
  cases k with
  | zero => exact absurd (by decide) h
  | succ k => exact nI_pred k
theorem nI_lt1 {k : Nat} (hk : k < 2 ^ 31) : nI k < 1 ↔ k = 0 := by
  rw [show (1 : Int32) = nI 1 from rfl, nI_ltI hk (by decide)]; omega
theorem nI_sub3 {p q : Nat} (h : p + q ≤ 3) : (3 : Int32) - nI p - nI q = nI (3 - p - q) := by
  have h1 : (3 : Int32) = nI 3 := rfl
  rw [h1, pk_sub (by omega), pk_sub (by omega)]

set_option maxRecDepth 100000 in
set_option maxHeartbeats 4000000 in
theorem c_X7_isFull {Γ : gG} {T : gTy} {r : gR} {l : gLg} {i : gI} {Q : gQ} {a : Nat} (hk : (T.2 a).1 = 7) (hQ : Q (some (.int (gB (¬ i a 3 < 6)))) T r l i) : gC Γ MX7_isFull [.ref a] T r l i Q := by
  refine gC_of rfl (Nat.le_of_ble_eq_true rfl) (L := [(0, .ref a)]) rfl ?_
  refine G_aload_n (pc := 0) 0 dX7_isFull_0 rfl ?_
  refine G_getI (pc := 1) dX7_isFull_1 fX7_21 (by assumption) ?_
  refine G_bipush (pc := 4) (v := 6) dX7_isFull_4 rfl ?_
  refine G_icmp_lt (pc := 6) (tgt := 13) dX7_isFull_6 (by decide) (fun h6 => ?_) (fun h6 => ?_)
  · refine G_iconst (pc := 13) (v := 0) dX7_isFull_13 rfl ?_
    refine G_iret (pc := 14) dX7_isFull_14 ⟨_, rfl, rfl⟩ ⟨by decide, by decide⟩ ?_
    simpa [gB, h6] using hQ
  · refine G_iconst (pc := 9) (v := 1) dX7_isFull_9 rfl ?_
    refine G_goto (pc := 10) (tgt := 14) dX7_isFull_10 (by decide) ?_
    refine G_iret (pc := 14) dX7_isFull_14 ⟨_, rfl, rfl⟩ ⟨by decide, by decide⟩ ?_
    simpa [gB, h6] using hQ

set_option maxRecDepth 100000 in
set_option maxHeartbeats 4000000 in
theorem c_X7_has {Γ : gG} {T : gTy} {r : gR} {l : gLg} {i : gI} {Q : gQ} {a : Nat} {x : Int32} (hk : (T.2 a).1 = 7) (hQ : Q (some (.int (gB (¬ x < 0 ∧ ¬ i a 3 ≤ x)))) T r l i) : gC Γ MX7_has [.ref a, .int x] T r l i Q := by
  refine gC_of rfl (Nat.le_of_ble_eq_true rfl) (L := [(0, .ref a), (1, .int x)]) rfl ?_
  refine G_iload_n (pc := 0) 1 dX7_has_0 rfl ?_
  refine G_if_lt (pc := 1) (tgt := 16) dX7_has_1 (by decide) (fun h1 => ?_) (fun h1 => ?_)
  · refine G_iconst (pc := 16) (v := 0) dX7_has_16 rfl ?_
    refine G_iret (pc := 17) dX7_has_17 ⟨_, rfl, rfl⟩ ⟨by decide, by decide⟩ ?_
    simpa [gB, h1] using hQ
  · refine G_iload_n (pc := 4) 1 dX7_has_4 rfl ?_
    refine G_aload_n (pc := 5) 0 dX7_has_5 rfl ?_
    refine G_getI (pc := 6) dX7_has_6 fX7_21 (by assumption) ?_
    refine G_icmp_ge (pc := 9) (tgt := 16) dX7_has_9 (by decide) (fun h9 => ?_) (fun h9 => ?_)
    · refine G_iconst (pc := 16) (v := 0) dX7_has_16 rfl ?_
      refine G_iret (pc := 17) dX7_has_17 ⟨_, rfl, rfl⟩ ⟨by decide, by decide⟩ ?_
      simpa [gB, h1, h9] using hQ
    · refine G_iconst (pc := 12) (v := 1) dX7_has_12 rfl ?_
      refine G_goto (pc := 13) (tgt := 17) dX7_has_13 (by decide) ?_
      refine G_iret (pc := 17) dX7_has_17 ⟨_, rfl, rfl⟩ ⟨by decide, by decide⟩ ?_
      simpa [gB, h1, h9] using hQ

theorem has_in {k n : Nat} {x : Int32} (hx : x = nI n) (h : k < n) (hn : n < 2 ^ 31) : ¬ nI k < 0 ∧ ¬ x ≤ nI k := by
  subst hx; exact ⟨nI_pos (by omega), nI_ge h hn⟩
theorem has_out {k n : Nat} {x : Int32} (hx : x = nI n) (h : n ≤ k) (hk : k < 2 ^ 31) : ¬ (¬ nI k < 0 ∧ ¬ x ≤ nI k) := by
  subst hx; exact fun q => q.2 (nI_le h hk)
set_option maxRecDepth 100000 in
set_option maxHeartbeats 4000000 in
theorem c_X7_scale {Γ : gG} {T : gTy} {r : gR} {l : gLg} {i : gI} {Q : gQ} {a k n : Nat} {f : Nat → Int32} {p q : Nat → Nat} (hL : lyT T r a) (hV : tv i a n f p q) (hk : k < n) (hQ : Q (some (.long (gPow 256 (3 - p k - q k)))) T r l i) : gC Γ MX7_scale [.ref a, .int (nI k)] T r l i Q := by
  obtain ⟨h0, h1, h2, h3, h4, h5, h6⟩ := hL
  obtain ⟨hn6, hn, hv⟩ := hV
  obtain ⟨v1, v2, v3, v4⟩ := hv k hk
  have hin := has_in hn hk (by omega)
  refine gC_of rfl (Nat.le_of_ble_eq_true rfl) (L := [(0, .ref a), (1, .int (nI k))]) rfl ?_
  refine G_aload_n (pc := 0) 0 dX7_scale_0 rfl ?_
  refine G_iload_n (pc := 1) 1 dX7_scale_1 rfl ?_
  refine gV1 (pc := 2) (k' := 0) (n' := 0) dX7_scale_2 lkX7_29 ⟨by decide, by decide⟩ (Nat.le_of_ble_eq_true rfl) rfl rfl ⟨by decide, by decide⟩ (by assumption) (c_X7_has (by assumption) ?_)
  dsimp only [gRt]
  refine G_if_eq (pc := 5) (tgt := 32) dX7_scale_5 (by decide) (fun h5 => ?_) (fun h5 => ?_)
  · exact absurd hin (gB_eq.mp h5)
  · refine G_ldc2 (pc := 8) dX7_scale_8 kcX7_41 ?_
    refine G_iconst (pc := 11) (v := 3) dX7_scale_11 rfl ?_
    refine G_aload_n (pc := 12) 0 dX7_scale_12 rfl ?_
    refine G_getR (pc := 13) dX7_scale_13 fX7_15 (by assumption) (by assumption) ?_
    refine G_iload_n (pc := 16) 1 dX7_scale_16 rfl ?_
    refine G_ialdJ (pc := 17) dX7_scale_17 (by assumption) rfl (by first | assumption | omega) (by decide) ?_
    refine G_isub (pc := 18) dX7_scale_18 ?_
    refine G_aload_n (pc := 19) 0 dX7_scale_19 rfl ?_
    refine G_getR (pc := 20) dX7_scale_20 fX7_18 (by assumption) (by assumption) ?_
    refine G_iload_n (pc := 23) 1 dX7_scale_23 rfl ?_
    refine G_ialdJ (pc := 24) dX7_scale_24 (by assumption) rfl (by first | assumption | omega) (by decide) ?_
    refine G_isub (pc := 25) dX7_scale_25 ?_
    rw [v2, v3, nI_sub3 v4]
    refine gS2 (pc := 26) (k' := 0) (n' := 0) dX7_scale_26 lkX7_33 ⟨by decide, by decide⟩ (Nat.le_of_ble_eq_true rfl) rfl rfl ⟨by decide, by decide⟩ (c_X11_power (by omega) ?_)
    dsimp only [gRt]
    refine G_goto (pc := 29) (tgt := 33) dX7_scale_29 (by decide) ?_
    refine G_lret (pc := 33) dX7_scale_33 rfl ⟨by decide, by decide⟩ ?_
    exact hQ

set_option maxRecDepth 100000 in
set_option maxHeartbeats 4000000 in
theorem lp_X5_look {Γ : gG} {T : gTy} {r : gR} {l : gLg} {i : gI} {Q : gQ} {sp a n : Nat} {x y : Int64} {f : Nat → Int32} {p q : Nat → Nat} (hsp : (T.2 sp).1 = 5) (hA : gN Γ ≤ sp) (hLT : lyT T r a) (hV : tv i a n f p q) (hQ : Q none T r (sp3 l sp (gSum f p q x y 0 n) (gSum f p q x y 1 n) (gSum f p q x y 2 n)) i) : ∀ d k, k + d = n → G Γ MX5_look 0 0 18 [(0, .ref sp), (1, .ref a), (2, .long x), (4, .long y), (6, .int (nI k))] [] T r (sp3 l sp (gSum f p q x y 0 k) (gSum f p q x y 1 k) (gSum f p q x y 2 k)) i Q := by
  obtain ⟨hn6, hn, hv⟩ := id hV
  obtain ⟨h0, h1, h2, h3, h4, h5, h6⟩ := id hLT
  intro d
  induction d with
  | zero =>
    intro k hk
    obtain rfl : k = n := by omega
    refine G_iload (pc := 18) 4 dX5_look_18 rfl ?_
    refine G_aload_n (pc := 20) 1 dX5_look_20 rfl ?_
    refine G_getI (pc := 21) dX5_look_21 fX5_19 (by assumption) ?_
    refine G_icmp_ge (pc := 24) (tgt := 170) dX5_look_24 (by decide) (fun h24 => ?_) (fun h24 => ?_)
    · refine G_vret (pc := 170) dX5_look_170 rfl ⟨by decide, by decide⟩ ?_
      exact hQ
    · exact absurd (by rw [hn]; exact Int32.le_refl _) h24
  | succ d ih =>
    intro k hk
    have hkn : k < n := by omega
    obtain ⟨v1, v2, v3, v4⟩ := hv k hkn
    refine G_iload (pc := 18) 4 dX5_look_18 rfl ?_
    refine G_aload_n (pc := 20) 1 dX5_look_20 rfl ?_
    refine G_getI (pc := 21) dX5_look_21 fX5_19 (by assumption) ?_
    refine G_icmp_ge (pc := 24) (tgt := 170) dX5_look_24 (by decide) (fun h24 => ?_) (fun h24 => ?_)
    · exact absurd h24 (by rw [hn]; exact nI_ge (by omega) (by omega))
    · refine G_aload_n (pc := 27) 1 dX5_look_27 rfl ?_
      refine G_getR (pc := 28) dX5_look_28 fX5_25 (by assumption) (by assumption) ?_
      refine G_iload (pc := 31) 4 dX5_look_31 rfl ?_
      refine G_ialdJ (pc := 33) dX5_look_33 (by assumption) rfl (by first | assumption | omega) (by decide) ?_
      rw [v2]
      refine G_sn5 (pc := 34) (gSt_i dX5_look_34 (by decide)) rfl ?_
      refine G_aload_n (pc := 36) 1 dX5_look_36 rfl ?_
      refine G_getR (pc := 37) dX5_look_37 fX5_29 (by assumption) (by assumption) ?_
      refine G_iload (pc := 40) 4 dX5_look_40 rfl ?_
      refine G_ialdJ (pc := 42) dX5_look_42 (by assumption) rfl (by first | assumption | omega) (by decide) ?_
      rw [v3]
      refine G_sn6 (pc := 43) (gSt_i dX5_look_43 (by decide)) rfl ?_
      refine G_aload_n (pc := 45) 1 dX5_look_45 rfl ?_
      refine G_getR (pc := 46) dX5_look_46 fX5_32 (by assumption) (by assumption) ?_
      refine G_iload (pc := 49) 4 dX5_look_49 rfl ?_
      refine G_ialdJ (pc := 51) dX5_look_51 (by assumption) rfl (by first | assumption | omega) (by decide) ?_
      rw [v1]
      refine G_i2l (pc := 52) dX5_look_52 ?_
      refine G_aload_n (pc := 53) 1 dX5_look_53 rfl ?_
      refine G_iload (pc := 54) 4 dX5_look_54 rfl ?_
      refine gV1 (pc := 56) (k' := 0) (n' := 0) dX5_look_56 lkX5_35 ⟨by decide, by decide⟩ (Nat.le_of_ble_eq_true rfl) rfl rfl ⟨by decide, by decide⟩ (by assumption) (c_X7_scale hLT hV hkn ?_)
      dsimp only [gRt]
      refine G_lmul (pc := 59) dX5_look_59 ?_
      rw [show (f k).toInt64 * gPow 256 (3 - p k - q k) = gW f p q k from rfl]
      refine G_sn7 (pc := 60) (gSt_l dX5_look_60 (by decide)) rfl ?_
      refine G_aload_n (pc := 62) 0 dX5_look_62 rfl ?_
      refine G_dup (pc := 63) dX5_look_63 rfl ?_
      refine G_getL (pc := 64) dX5_look_64 fX5_7 (by assumption) ?_
      refine G_lload (pc := 67) 7 dX5_look_67 rfl ?_
      rw [sp3_0]
      refine G_lload_n (pc := 69) 2 dX5_look_69 rfl ?_
      refine G_iload (pc := 70) 5 dX5_look_70 rfl ?_
      refine gS2 (pc := 72) (k' := 0) (n' := 0) dX5_look_72 lkX5_39 ⟨by decide, by decide⟩ (Nat.le_of_ble_eq_true rfl) rfl rfl ⟨by decide, by decide⟩ (c_X11_power (by omega) ?_)
      dsimp only [gRt]
      refine G_lmul (pc := 75) dX5_look_75 ?_
      refine G_lload (pc := 76) 3 dX5_look_76 rfl ?_
      refine G_iload (pc := 78) 6 dX5_look_78 rfl ?_
      refine gS2 (pc := 80) (k' := 0) (n' := 0) dX5_look_80 lkX5_39 ⟨by decide, by decide⟩ (Nat.le_of_ble_eq_true rfl) rfl rfl ⟨by decide, by decide⟩ (c_X11_power (by omega) ?_)
      dsimp only [gRt]
      refine G_lmul (pc := 83) dX5_look_83 ?_
      refine G_ladd (pc := 84) dX5_look_84 ?_
      refine G_putL (pc := 85) dX5_look_85 fX5_7 (by assumption) (by first | assumption | omega) ?_
      rw [sp3_p0]
      refine G_iload (pc := 88) 5 dX5_look_88 rfl ?_
      refine G_iconst (pc := 90) (v := 1) dX5_look_90 rfl ?_
      refine G_icmp_lt (pc := 91) (tgt := 126) dX5_look_91 (by decide) (fun h91 => ?_) (fun h91 => ?_)
      · refine G_iload (pc := 126) 6 dX5_look_126 rfl ?_
        refine G_iconst (pc := 128) (v := 1) dX5_look_128 rfl ?_
        refine G_icmp_lt (pc := 129) (tgt := 164) dX5_look_129 (by decide) (fun h129 => ?_) (fun h129 => ?_)
        · refine G_inc4 (pc := 164) (v := 1) dX5_look_164 rfl (by decide) rfl ?_
          refine G_goto (pc := 167) (tgt := 18) dX5_look_167 (by decide) ?_
          refine G_drop7 ?_
          refine G_drop6 ?_
          refine G_drop5 ?_
          rw [nI_1]
          have e0 : gSum f p q x y 0 (k + 1) = gSum f p q x y 0 k + gW f p q k * gPow x (p k) * gPow y (q k) := by simp [gSum, gvn]
          have e1 : gSum f p q x y 1 (k + 1) = gSum f p q x y 1 k := by simp [gSum, gvn, (nI_lt1 (by omega)).mp h91]
          have e2 : gSum f p q x y 2 (k + 1) = gSum f p q x y 2 k := by simp [gSum, gvn, (nI_lt1 (by omega)).mp h129]
          have ih2 := ih (k + 1) (by omega)
          rw [e0, e1, e2] at ih2
          exact ih2
        · refine G_aload_n (pc := 132) 0 dX5_look_132 rfl ?_
          refine G_dup (pc := 133) dX5_look_133 rfl ?_
          refine G_getL (pc := 134) dX5_look_134 fX5_16 (by assumption) ?_
          rw [sp3_2]
          refine G_lload (pc := 137) 7 dX5_look_137 rfl ?_
          refine G_iload (pc := 139) 6 dX5_look_139 rfl ?_
          refine G_i2l (pc := 141) dX5_look_141 ?_
          refine G_lmul (pc := 142) dX5_look_142 ?_
          refine G_lload_n (pc := 143) 2 dX5_look_143 rfl ?_
          refine G_iload (pc := 144) 5 dX5_look_144 rfl ?_
          refine gS2 (pc := 146) (k' := 0) (n' := 0) dX5_look_146 lkX5_39 ⟨by decide, by decide⟩ (Nat.le_of_ble_eq_true rfl) rfl rfl ⟨by decide, by decide⟩ (c_X11_power (by omega) ?_)
          dsimp only [gRt]
          refine G_lmul (pc := 149) dX5_look_149 ?_
          refine G_lload (pc := 150) 3 dX5_look_150 rfl ?_
          refine G_iload (pc := 152) 6 dX5_look_152 rfl ?_
          refine G_iconst (pc := 154) (v := 1) dX5_look_154 rfl ?_
          refine G_isub (pc := 155) dX5_look_155 ?_
          rw [nI_pr h129]
          refine gS2 (pc := 156) (k' := 0) (n' := 0) dX5_look_156 lkX5_39 ⟨by decide, by decide⟩ (Nat.le_of_ble_eq_true rfl) rfl rfl ⟨by decide, by decide⟩ (c_X11_power (by omega) ?_)
          dsimp only [gRt]
          refine G_lmul (pc := 159) dX5_look_159 ?_
          refine G_ladd (pc := 160) dX5_look_160 ?_
          refine G_putL (pc := 161) dX5_look_161 fX5_16 (by assumption) (by first | assumption | omega) ?_
          rw [sp3_p2]
          refine G_inc4 (pc := 164) (v := 1) dX5_look_164 rfl (by decide) rfl ?_
          refine G_goto (pc := 167) (tgt := 18) dX5_look_167 (by decide) ?_
          refine G_drop7 ?_
          refine G_drop6 ?_
          refine G_drop5 ?_
          rw [nI_1]
          have e0 : gSum f p q x y 0 (k + 1) = gSum f p q x y 0 k + gW f p q k * gPow x (p k) * gPow y (q k) := by simp [gSum, gvn]
          have e1 : gSum f p q x y 1 (k + 1) = gSum f p q x y 1 k := by simp [gSum, gvn, (nI_lt1 (by omega)).mp h91]
          have e2 : gSum f p q x y 2 (k + 1) = gSum f p q x y 2 k + gW f p q k * (nI (q k)).toInt64 * gPow x (p k) * gPow y (q k - 1) := by
            have hz : ¬ q k = 0 := fun z => h129 ((nI_lt1 (by omega)).mpr z)
            simp [gSum, gvn, hz]
          have ih2 := ih (k + 1) (by omega)
          rw [e0, e1, e2] at ih2
          exact ih2
      · refine G_aload_n (pc := 94) 0 dX5_look_94 rfl ?_
        refine G_dup (pc := 95) dX5_look_95 rfl ?_
        refine G_getL (pc := 96) dX5_look_96 fX5_13 (by assumption) ?_
        rw [sp3_1]
        refine G_lload (pc := 99) 7 dX5_look_99 rfl ?_
        refine G_iload (pc := 101) 5 dX5_look_101 rfl ?_
        refine G_i2l (pc := 103) dX5_look_103 ?_
        refine G_lmul (pc := 104) dX5_look_104 ?_
        refine G_lload_n (pc := 105) 2 dX5_look_105 rfl ?_
        refine G_iload (pc := 106) 5 dX5_look_106 rfl ?_
        refine G_iconst (pc := 108) (v := 1) dX5_look_108 rfl ?_
        refine G_isub (pc := 109) dX5_look_109 ?_
        rw [nI_pr h91]
        refine gS2 (pc := 110) (k' := 0) (n' := 0) dX5_look_110 lkX5_39 ⟨by decide, by decide⟩ (Nat.le_of_ble_eq_true rfl) rfl rfl ⟨by decide, by decide⟩ (c_X11_power (by omega) ?_)
        dsimp only [gRt]
        refine G_lmul (pc := 113) dX5_look_113 ?_
        refine G_lload (pc := 114) 3 dX5_look_114 rfl ?_
        refine G_iload (pc := 116) 6 dX5_look_116 rfl ?_
        refine gS2 (pc := 118) (k' := 0) (n' := 0) dX5_look_118 lkX5_39 ⟨by decide, by decide⟩ (Nat.le_of_ble_eq_true rfl) rfl rfl ⟨by decide, by decide⟩ (c_X11_power (by omega) ?_)
        dsimp only [gRt]
        refine G_lmul (pc := 121) dX5_look_121 ?_
        refine G_ladd (pc := 122) dX5_look_122 ?_
        refine G_putL (pc := 123) dX5_look_123 fX5_13 (by assumption) (by first | assumption | omega) ?_
        rw [sp3_p1]
        refine G_iload (pc := 126) 6 dX5_look_126 rfl ?_
        refine G_iconst (pc := 128) (v := 1) dX5_look_128 rfl ?_
        refine G_icmp_lt (pc := 129) (tgt := 164) dX5_look_129 (by decide) (fun h129 => ?_) (fun h129 => ?_)
        · refine G_inc4 (pc := 164) (v := 1) dX5_look_164 rfl (by decide) rfl ?_
          refine G_goto (pc := 167) (tgt := 18) dX5_look_167 (by decide) ?_
          refine G_drop7 ?_
          refine G_drop6 ?_
          refine G_drop5 ?_
          rw [nI_1]
          have e0 : gSum f p q x y 0 (k + 1) = gSum f p q x y 0 k + gW f p q k * gPow x (p k) * gPow y (q k) := by simp [gSum, gvn]
          have e1 : gSum f p q x y 1 (k + 1) = gSum f p q x y 1 k + gW f p q k * (nI (p k)).toInt64 * gPow x (p k - 1) * gPow y (q k) := by
            have hz : ¬ p k = 0 := fun z => h91 ((nI_lt1 (by omega)).mpr z)
            simp [gSum, gvn, hz]
          have e2 : gSum f p q x y 2 (k + 1) = gSum f p q x y 2 k := by simp [gSum, gvn, (nI_lt1 (by omega)).mp h129]
          have ih2 := ih (k + 1) (by omega)
          rw [e0, e1, e2] at ih2
          exact ih2
        · refine G_aload_n (pc := 132) 0 dX5_look_132 rfl ?_
          refine G_dup (pc := 133) dX5_look_133 rfl ?_
          refine G_getL (pc := 134) dX5_look_134 fX5_16 (by assumption) ?_
          rw [sp3_2]
          refine G_lload (pc := 137) 7 dX5_look_137 rfl ?_
          refine G_iload (pc := 139) 6 dX5_look_139 rfl ?_
          refine G_i2l (pc := 141) dX5_look_141 ?_
          refine G_lmul (pc := 142) dX5_look_142 ?_
          refine G_lload_n (pc := 143) 2 dX5_look_143 rfl ?_
          refine G_iload (pc := 144) 5 dX5_look_144 rfl ?_
          refine gS2 (pc := 146) (k' := 0) (n' := 0) dX5_look_146 lkX5_39 ⟨by decide, by decide⟩ (Nat.le_of_ble_eq_true rfl) rfl rfl ⟨by decide, by decide⟩ (c_X11_power (by omega) ?_)
          dsimp only [gRt]
          refine G_lmul (pc := 149) dX5_look_149 ?_
          refine G_lload (pc := 150) 3 dX5_look_150 rfl ?_
          refine G_iload (pc := 152) 6 dX5_look_152 rfl ?_
          refine G_iconst (pc := 154) (v := 1) dX5_look_154 rfl ?_
          refine G_isub (pc := 155) dX5_look_155 ?_
          rw [nI_pr h129]
          refine gS2 (pc := 156) (k' := 0) (n' := 0) dX5_look_156 lkX5_39 ⟨by decide, by decide⟩ (Nat.le_of_ble_eq_true rfl) rfl rfl ⟨by decide, by decide⟩ (c_X11_power (by omega) ?_)
          dsimp only [gRt]
          refine G_lmul (pc := 159) dX5_look_159 ?_
          refine G_ladd (pc := 160) dX5_look_160 ?_
          refine G_putL (pc := 161) dX5_look_161 fX5_16 (by assumption) (by first | assumption | omega) ?_
          rw [sp3_p2]
          refine G_inc4 (pc := 164) (v := 1) dX5_look_164 rfl (by decide) rfl ?_
          refine G_goto (pc := 167) (tgt := 18) dX5_look_167 (by decide) ?_
          refine G_drop7 ?_
          refine G_drop6 ?_
          refine G_drop5 ?_
          rw [nI_1]
          have e0 : gSum f p q x y 0 (k + 1) = gSum f p q x y 0 k + gW f p q k * gPow x (p k) * gPow y (q k) := by simp [gSum, gvn]
          have e1 : gSum f p q x y 1 (k + 1) = gSum f p q x y 1 k + gW f p q k * (nI (p k)).toInt64 * gPow x (p k - 1) * gPow y (q k) := by
            have hz : ¬ p k = 0 := fun z => h91 ((nI_lt1 (by omega)).mpr z)
            simp [gSum, gvn, hz]
          have e2 : gSum f p q x y 2 (k + 1) = gSum f p q x y 2 k + gW f p q k * (nI (q k)).toInt64 * gPow x (p k) * gPow y (q k - 1) := by
            have hz : ¬ q k = 0 := fun z => h129 ((nI_lt1 (by omega)).mpr z)
            simp [gSum, gvn, hz]
          have ih2 := ih (k + 1) (by omega)
          rw [e0, e1, e2] at ih2
          exact ih2

set_option maxRecDepth 100000 in
set_option maxHeartbeats 4000000 in
theorem c_X5_look {Γ : gG} {T : gTy} {r : gR} {l : gLg} {i : gI} {Q : gQ} {sp a n : Nat} {x y : Int64} {f : Nat → Int32} {p q : Nat → Nat} (hsp : (T.2 sp).1 = 5) (hA : gN Γ ≤ sp) (hLT : lyT T r a) (hV : tv i a n f p q) (hQ : Q none T r (sp3 l sp (gSum f p q x y 0 n) (gSum f p q x y 1 n) (gSum f p q x y 2 n)) i) : gC Γ MX5_look [.ref sp, .ref a, .long x, .long y] T r l i Q := by
  refine gC_of rfl (Nat.le_of_ble_eq_true rfl) (L := [(0, .ref sp), (1, .ref a), (2, .long x), (4, .long y)]) rfl ?_
  refine G_aload_n (pc := 0) 0 dX5_look_0 rfl ?_
  refine G_lconst (pc := 1) (v := 0) dX5_look_1 rfl ?_
  refine G_putL (pc := 2) dX5_look_2 fX5_7 (by assumption) (by first | assumption | omega) ?_
  refine G_aload_n (pc := 5) 0 dX5_look_5 rfl ?_
  refine G_lconst (pc := 6) (v := 0) dX5_look_6 rfl ?_
  refine G_putL (pc := 7) dX5_look_7 fX5_13 (by assumption) (by first | assumption | omega) ?_
  refine G_aload_n (pc := 10) 0 dX5_look_10 rfl ?_
  refine G_lconst (pc := 11) (v := 0) dX5_look_11 rfl ?_
  refine G_putL (pc := 12) dX5_look_12 fX5_16 (by assumption) (by first | assumption | omega) ?_
  refine G_iconst (pc := 15) (v := 0) dX5_look_15 rfl ?_
  refine G_sn4 (pc := 16) (gSt_i dX5_look_16 (by decide)) rfl ?_
  rw [sp3_000]
  exact lp_X5_look hsp hA hLT hV hQ n 0 (Nat.zero_add n)

set_option maxRecDepth 100000 in
set_option maxHeartbeats 4000000 in
theorem c_X5_steepness {Γ : gG} {T : gTy} {r : gR} {l : gLg} {i : gI} {Q : gQ} {a : Nat} (hk : (T.2 a).1 = 5) (hQ : Q (some (.long (l a 1 * l a 1 + l a 2 * l a 2))) T r l i) : gC Γ MX5_steepness [.ref a] T r l i Q := by
  refine gC_of rfl (Nat.le_of_ble_eq_true rfl) (L := [(0, .ref a)]) rfl ?_
  refine G_aload_n (pc := 0) 0 dX5_steepness_0 rfl ?_
  refine G_getL (pc := 1) dX5_steepness_1 fX5_13 (by assumption) ?_
  refine G_aload_n (pc := 4) 0 dX5_steepness_4 rfl ?_
  refine G_getL (pc := 5) dX5_steepness_5 fX5_13 (by assumption) ?_
  refine G_lmul (pc := 8) dX5_steepness_8 ?_
  refine G_aload_n (pc := 9) 0 dX5_steepness_9 rfl ?_
  refine G_getL (pc := 10) dX5_steepness_10 fX5_16 (by assumption) ?_
  refine G_aload_n (pc := 13) 0 dX5_steepness_13 rfl ?_
  refine G_getL (pc := 14) dX5_steepness_14 fX5_16 (by assumption) ?_
  refine G_lmul (pc := 17) dX5_steepness_17 ?_
  refine G_ladd (pc := 18) dX5_steepness_18 ?_
  refine G_lret (pc := 19) dX5_steepness_19 rfl ⟨by decide, by decide⟩ ?_
  exact hQ

set_option maxRecDepth 100000 in
set_option maxHeartbeats 4000000 in
theorem c_X4_at {Γ : gG} {T : gTy} {r : gR} {l : gLg} {i : gI} {Q : gQ} {a j : Nat} (hL : lySe T r a) (hj : j < 3) (hQ : Q (some (.int (i (a + 1) j))) T r l i) : gC Γ MX4_at [.ref a, .int (nI j)] T r l i Q := by
  obtain ⟨h0, h1, h2⟩ := hL
  refine gC_of rfl (Nat.le_of_ble_eq_true rfl) (L := [(0, .ref a), (1, .int (nI j))]) rfl ?_
  refine G_iload_n (pc := 0) 1 dX4_at_0 rfl ?_
  refine G_if_lt (pc := 1) (tgt := 22) dX4_at_1 (by decide) (fun h1_ => ?_) (fun h1_ => ?_)
  · exact absurd h1_ (nI_pos (by omega))
  · refine G_iload_n (pc := 4) 1 dX4_at_4 rfl ?_
    refine G_aload_n (pc := 5) 0 dX4_at_5 rfl ?_
    refine G_getR (pc := 6) dX4_at_6 fX4_7 (by assumption) (by assumption) ?_
    refine G_alen (pc := 9) (z := 13) (v := 3) dX4_at_9 (by decide) (by assumption) rfl ?_
    refine G_icmp_ge (pc := 10) (tgt := 22) dX4_at_10 (by decide) (fun h10 => ?_) (fun h10 => ?_)
    · exact absurd h10 (nI_ge hj (by decide))
    · refine G_aload_n (pc := 13) 0 dX4_at_13 rfl ?_
      refine G_getR (pc := 14) dX4_at_14 fX4_7 (by assumption) (by assumption) ?_
      refine G_iload_n (pc := 17) 1 dX4_at_17 rfl ?_
      refine G_ialdJ (pc := 18) dX4_at_18 (by assumption) rfl (by first | assumption | omega) (by decide) ?_
      refine G_goto (pc := 19) (tgt := 23) dX4_at_19 (by decide) ?_
      refine G_iret (pc := 23) dX4_at_23 ⟨_, rfl, rfl⟩ ⟨by decide, by decide⟩ ?_
      exact hQ
end
section
/-! the corrector, and the reference's own correction -/
theorem gl0 : (0 : Int32) = nI 0 := rfl
theorem gl1 : (1 : Int32) = nI 1 := rfl
theorem gl2 : (2 : Int32) = nI 2 := rfl
theorem gl3 : (3 : Int32) = nI 3 := rfl
theorem gl4 : (4 : Int32) = nI 4 := rfl
theorem gl5 : (5 : Int32) = nI 5 := rfl
theorem gl6 : (6 : Int32) = nI 6 := rfl
theorem gl7 : (7 : Int32) = nI 7 := rfl
theorem gl8 : (8 : Int32) = nI 8 := rfl
theorem gl9 : (9 : Int32) = nI 9 := rfl
theorem gl10 : (10 : Int32) = nI 10 := rfl
theorem gl12 : (12 : Int32) = nI 12 := rfl
theorem gl23 : (23 : Int32) = nI 23 := rfl
theorem gl40 : (40 : Int32) = nI 40 := rfl
theorem gl60 : (60 : Int32) = nI 60 := rfl
theorem gl166 : (166 : Int32) = nI 166 := rfl
theorem gl853 : (853 : Int32) = nI 853 := rfl
theorem gl3412 : (3412 : Int32) = nI 3412 := rfl
theorem gl2559 : (2559 : Int32) = nI 2559 := rfl
theorem inB_tt {x : Int64} (h : inB x) : x.toInt32.toInt64 = x := by
  obtain ⟨h1, h2⟩ := h
  have g1 : -1024 ≤ x.toInt := by
    have := Int64.le_iff_toInt_le.mp (Int64.not_lt.mp h1)
    exact this
  have g2 : x.toInt ≤ 1024 := by
    have := Int64.le_iff_toInt_le.mp (Int64.not_lt.mp h2)
    exact this
  apply Int64.toInt_inj.mp
  rw [Int32.toInt_toInt64, Int64.toInt_toInt32]
  apply Int.bmod_eq_of_le <;> omega
def cr3 (i : gI) (c : Nat) (x y z : Int32) : gI := up2 (up2 (up2 i c 1 x) c 2 y) c 3 z
theorem nI_pr0 {k : Nat} (hk : k < 2 ^ 31) (h : ¬ nI k = 0) : nI k - 1 = nI (k - 1) := nI_pr (fun z => h (by rw [(nI_lt1 hk).mp z]; rfl))
/-- what a corrector needs of a state at b -/
def lyC (T : gTy) (r : gR) (b : Nat) : Prop := (T.2 b).1 = 6 ∧ r b 0 = some (b + 1) ∧ r b 2 = some (b + 34) ∧ lyT T r (b + 1) ∧ lySe T r (b + 34)
def lyCo (T : gTy) (r : gR) (c : Nat) : Prop := (T.2 c).1 = 0 ∧ r c 0 = some (c + 1) ∧ (T.2 (c + 1)).1 = 5

set_option maxRecDepth 100000 in
set_option maxHeartbeats 4000000 in
theorem lp_X0_correct {Γ : gG} {T : gTy} {r : gR} {l : gLg} {i : gI} {Q : gQ} {b c n m : Nat} {x0 y0 : Int64} {f : Nat → Int32} {p q : Nat → Nat} (hB : lyC T r b) (hC : lyCo T r c) (hA : gN Γ ≤ c) (hV : tv i (b + 1) n f p q) (hm : i (b + 35) 2 = nI m) (hm2 : m < 2 ^ 30)
  (h0 : gCor f p q n m 0 x0 y0 = none → ∀ l', (∀ d, d ≠ c + 1 → l' d = l d) → Q (some (.int 0)) T r l' i)
  (h1 : ∀ x y rd, gCor f p q n m 0 x0 y0 = some (x, y, rd) → ∀ l', (∀ d, d ≠ c + 1 → l' d = l d) → l' (c + 1) 1 = gSum f p q x y 1 n → l' (c + 1) 2 = gSum f p q x y 2 n → Q (some (.int 1)) T r l' (cr3 i c x.toInt32 y.toInt32 (nI rd))) : ∀ d rd x y l1, rd + d = m → (∀ e, e ≠ c + 1 → l1 e = l e) → gCor f p q n d rd x y = gCor f p q n m 0 x0 y0 → G Γ MX0_correct 0 0 20 [(0, .ref c), (1, .ref b), (2, .long x0), (4, .long y0), (6, .long x), (8, .long y), (10, .int (nI m)), (11, .int (nI (rd + 1)))] [] T r l1 i Q := by
  obtain ⟨b0, b1, b2, b4, b5⟩ := hB
  obtain ⟨c0, c1, b3⟩ := hC
  intro d
  induction d with
  | zero =>
    intro rd x y l1 hk hl1 hg
    refine G_iload (pc := 20) 7 dX0_correct_20 rfl ?_
    refine G_iload (pc := 22) 6 dX0_correct_22 rfl ?_
    refine G_icmp_gt (pc := 24) (tgt := 168) dX0_correct_24 (by decide) (fun h24 => ?_) (fun h24 => ?_)
    · refine G_iconst (pc := 168) (v := 0) dX0_correct_168 rfl ?_
      refine G_iret (pc := 169) dX0_correct_169 ⟨_, rfl, rfl⟩ ⟨by decide, by decide⟩ ?_
      exact h0 (by rw [← hg]; rfl) l1 hl1
    · exact absurd (nI_lt (by omega) (by omega)) h24
  | succ d ih =>
    intro rd x y l1 hk hl1 hg
    have hcor : gCor f p q n m 0 x0 y0 = (if inB x ∧ inB y then (if gGG f p q n x y = 0 then none else if gSum f p q x y 0 n * gSum f p q x y 1 n / gGG f p q n x y = 0 ∧ gSum f p q x y 0 n * gSum f p q x y 2 n / gGG f p q n x y = 0 then some (x, y, rd + 1) else gCor f p q n d (rd + 1) (x - gSum f p q x y 0 n * gSum f p q x y 1 n / gGG f p q n x y) (y - gSum f p q x y 0 n * gSum f p q x y 2 n / gGG f p q n x y)) else none) := by rw [← hg, gCor]
    refine G_iload (pc := 20) 7 dX0_correct_20 rfl ?_
    refine G_iload (pc := 22) 6 dX0_correct_22 rfl ?_
    refine G_icmp_gt (pc := 24) (tgt := 168) dX0_correct_24 (by decide) (fun h24 => ?_) (fun h24 => ?_)
    · exact absurd h24 (nI_nlt (by omega) (by omega))
    · refine G_lload (pc := 27) 4 dX0_correct_27 rfl ?_
      refine G_lload (pc := 29) 5 dX0_correct_29 rfl ?_
      refine gS2 (pc := 31) (k' := 0) (n' := 0) dX0_correct_31 lkX0_28 ⟨by decide, by decide⟩ (Nat.le_of_ble_eq_true rfl) rfl rfl ⟨by decide, by decide⟩ (c_X11_isPlace ?_)
      dsimp only [gRt]
      refine G_if_ne (pc := 34) (tgt := 39) dX0_correct_34 (by decide) (fun h34 => ?_) (fun h34 => ?_)
      · refine G_aload_n (pc := 39) 0 dX0_correct_39 rfl ?_
        refine G_getR (pc := 40) dX0_correct_40 fX0_10 (by assumption) (by assumption) ?_
        refine G_aload_n (pc := 43) 1 dX0_correct_43 rfl ?_
        refine G_getR (pc := 44) dX0_correct_44 fX0_34 (by assumption) (by assumption) ?_
        refine G_lload (pc := 47) 4 dX0_correct_47 rfl ?_
        refine G_lload (pc := 49) 5 dX0_correct_49 rfl ?_
        refine gV3 (pc := 51) (k' := 0) (n' := 0) dX0_correct_51 lkX0_38 ⟨by decide, by decide⟩ (Nat.le_of_ble_eq_true rfl) rfl rfl ⟨by decide, by decide⟩ (by assumption) (c_X5_look b3 (by omega) b4 hV ?_)
        dsimp only [gRt]
        refine G_aload_n (pc := 54) 0 dX0_correct_54 rfl ?_
        refine G_getR (pc := 55) dX0_correct_55 fX0_10 (by assumption) (by assumption) ?_
        refine gV0 (pc := 58) (k' := 0) (n' := 0) dX0_correct_58 lkX0_42 ⟨by decide, by decide⟩ (Nat.le_of_ble_eq_true rfl) rfl rfl ⟨by decide, by decide⟩ (by assumption) (c_X5_steepness b3 ?_)
        dsimp only [gRt]
        simp only [sp3_0, sp3_1, sp3_2]
        refine G_sn8 (pc := 61) (gSt_l dX0_correct_61 (by decide)) rfl ?_
        refine G_lload (pc := 63) 8 dX0_correct_63 rfl ?_
        refine G_lconst (pc := 65) (v := 0) dX0_correct_65 rfl ?_
        refine G_lif_ne (pc := 66) (tgt := 72) dX0_correct_66 dX0_correct_67 (by decide) (fun h66 => ?_) (fun h66 => ?_)
        · refine G_aload_n (pc := 72) 0 dX0_correct_72 rfl ?_
          refine G_getR (pc := 73) dX0_correct_73 fX0_10 (by assumption) (by assumption) ?_
          refine G_getL (pc := 76) dX0_correct_76 fX0_46 (by assumption) ?_
          rw [sp3_0]
          refine G_aload_n (pc := 79) 0 dX0_correct_79 rfl ?_
          refine G_getR (pc := 80) dX0_correct_80 fX0_10 (by assumption) (by assumption) ?_
          refine G_getL (pc := 83) dX0_correct_83 fX0_50 (by assumption) ?_
          rw [sp3_1]
          refine G_lmul (pc := 86) dX0_correct_86 ?_
          refine G_lload (pc := 87) 8 dX0_correct_87 rfl ?_
          refine G_ldiv (pc := 89) dX0_correct_89 h66 ?_
          refine G_sn9 (pc := 90) (gSt_l dX0_correct_90 (by decide)) rfl ?_
          refine G_aload_n (pc := 92) 0 dX0_correct_92 rfl ?_
          refine G_getR (pc := 93) dX0_correct_93 fX0_10 (by assumption) (by assumption) ?_
          refine G_getL (pc := 96) dX0_correct_96 fX0_46 (by assumption) ?_
          rw [sp3_0]
          refine G_aload_n (pc := 99) 0 dX0_correct_99 rfl ?_
          refine G_getR (pc := 100) dX0_correct_100 fX0_10 (by assumption) (by assumption) ?_
          refine G_getL (pc := 103) dX0_correct_103 fX0_53 (by assumption) ?_
          rw [sp3_2]
          refine G_lmul (pc := 106) dX0_correct_106 ?_
          refine G_lload (pc := 107) 8 dX0_correct_107 rfl ?_
          refine G_ldiv (pc := 109) dX0_correct_109 h66 ?_
          refine G_sn10 (pc := 110) (gSt_l dX0_correct_110 (by decide)) rfl ?_
          refine G_lload (pc := 112) 9 dX0_correct_112 rfl ?_
          refine G_lconst (pc := 114) (v := 0) dX0_correct_114 rfl ?_
          refine G_lif_ne (pc := 115) (tgt := 148) dX0_correct_115 dX0_correct_116 (by decide) (fun h115 => ?_) (fun h115 => ?_)
          · refine G_lload (pc := 148) 4 dX0_correct_148 rfl ?_
            refine G_lload (pc := 150) 9 dX0_correct_150 rfl ?_
            refine G_lsub (pc := 152) dX0_correct_152 ?_
            refine G_st4 (pc := 153) (gSt_l dX0_correct_153 (by decide)) rfl ?_
            refine G_lload (pc := 155) 5 dX0_correct_155 rfl ?_
            refine G_lload (pc := 157) 10 dX0_correct_157 rfl ?_
            refine G_lsub (pc := 159) dX0_correct_159 ?_
            refine G_st5 (pc := 160) (gSt_l dX0_correct_160 (by decide)) rfl ?_
            refine G_inc7 (pc := 162) (v := 1) dX0_correct_162 rfl (by decide) rfl ?_
            refine G_goto (pc := 165) (tgt := 20) dX0_correct_165 (by decide) ?_
            refine G_drop10 ?_
            refine G_drop9 ?_
            refine G_drop8 ?_
            rw [nI_1]
            refine ih (rd + 1) _ _ _ (by omega) (fun d hd => by rw [sp3_ne hd, hl1 d hd]) ?_
            rw [hcor, if_pos (gB_ne.mp h34), if_neg h66, if_neg (fun z => h115 z.1)]
          · refine G_lload (pc := 119) 10 dX0_correct_119 rfl ?_
            refine G_lconst (pc := 121) (v := 0) dX0_correct_121 rfl ?_
            refine G_lif_ne (pc := 122) (tgt := 148) dX0_correct_122 dX0_correct_123 (by decide) (fun h122 => ?_) (fun h122 => ?_)
            · refine G_lload (pc := 148) 4 dX0_correct_148 rfl ?_
              refine G_lload (pc := 150) 9 dX0_correct_150 rfl ?_
              refine G_lsub (pc := 152) dX0_correct_152 ?_
              refine G_st4 (pc := 153) (gSt_l dX0_correct_153 (by decide)) rfl ?_
              refine G_lload (pc := 155) 5 dX0_correct_155 rfl ?_
              refine G_lload (pc := 157) 10 dX0_correct_157 rfl ?_
              refine G_lsub (pc := 159) dX0_correct_159 ?_
              refine G_st5 (pc := 160) (gSt_l dX0_correct_160 (by decide)) rfl ?_
              refine G_inc7 (pc := 162) (v := 1) dX0_correct_162 rfl (by decide) rfl ?_
              refine G_goto (pc := 165) (tgt := 20) dX0_correct_165 (by decide) ?_
              refine G_drop10 ?_
              refine G_drop9 ?_
              refine G_drop8 ?_
              rw [nI_1]
              refine ih (rd + 1) _ _ _ (by omega) (fun d hd => by rw [sp3_ne hd, hl1 d hd]) ?_
              rw [hcor, if_pos (gB_ne.mp h34), if_neg h66, if_neg (fun z => h122 z.2)]
            · refine G_aload_n (pc := 126) 0 dX0_correct_126 rfl ?_
              refine G_lload (pc := 127) 4 dX0_correct_127 rfl ?_
              refine G_l2i (pc := 129) dX0_correct_129 ?_
              refine G_putI (pc := 130) dX0_correct_130 fX0_56 (by assumption) rfl rfl (by first | assumption | omega) ?_
              refine G_aload_n (pc := 133) 0 dX0_correct_133 rfl ?_
              refine G_lload (pc := 134) 5 dX0_correct_134 rfl ?_
              refine G_l2i (pc := 136) dX0_correct_136 ?_
              refine G_putI (pc := 137) dX0_correct_137 fX0_60 (by assumption) rfl rfl (by first | assumption | omega) ?_
              refine G_aload_n (pc := 140) 0 dX0_correct_140 rfl ?_
              refine G_iload (pc := 141) 7 dX0_correct_141 rfl ?_
              refine G_putI (pc := 143) dX0_correct_143 fX0_63 (by assumption) rfl rfl (by first | assumption | omega) ?_
              refine G_iconst (pc := 146) (v := 1) dX0_correct_146 rfl ?_
              refine G_iret (pc := 147) dX0_correct_147 ⟨_, rfl, rfl⟩ ⟨by decide, by decide⟩ ?_
              refine h1 x y (rd + 1) ?_ _ (fun d hd => by rw [sp3_ne hd, hl1 d hd]) sp3_1 sp3_2
              rw [hcor, if_pos (gB_ne.mp h34), if_neg h66, if_pos ⟨h115, h122⟩]
        · refine G_iconst (pc := 70) (v := 0) dX0_correct_70 rfl ?_
          refine G_iret (pc := 71) dX0_correct_71 ⟨_, rfl, rfl⟩ ⟨by decide, by decide⟩ ?_
          refine h0 ?_ _ (fun d hd => by rw [sp3_ne hd, hl1 d hd])
          rw [hcor, if_pos (gB_ne.mp h34), if_pos h66]
      · refine G_iconst (pc := 37) (v := 0) dX0_correct_37 rfl ?_
        refine G_iret (pc := 38) dX0_correct_38 ⟨_, rfl, rfl⟩ ⟨by decide, by decide⟩ ?_
        refine h0 ?_ l1 hl1
        rw [hcor, if_neg (gB_eq.mp (by assumption))]

set_option maxRecDepth 100000 in
set_option maxHeartbeats 4000000 in
theorem c_X0_correct {Γ : gG} {T : gTy} {r : gR} {l : gLg} {i : gI} {Q : gQ} {b c n m : Nat} {x0 y0 : Int64} {f : Nat → Int32} {p q : Nat → Nat} (hB : lyC T r b) (hC : lyCo T r c) (hA : gN Γ ≤ c) (hV : tv i (b + 1) n f p q) (hm : i (b + 35) 2 = nI m) (hm2 : m < 2 ^ 30)
  (h0 : gCor f p q n m 0 x0 y0 = none → ∀ l', (∀ d, d ≠ c + 1 → l' d = l d) → Q (some (.int 0)) T r l' i)
  (h1 : ∀ x y rd, gCor f p q n m 0 x0 y0 = some (x, y, rd) → ∀ l', (∀ d, d ≠ c + 1 → l' d = l d) → l' (c + 1) 1 = gSum f p q x y 1 n → l' (c + 1) 2 = gSum f p q x y 2 n → Q (some (.int 1)) T r l' (cr3 i c x.toInt32 y.toInt32 (nI rd))) : gC Γ MX0_correct [.ref c, .ref b, .long x0, .long y0] T r l i Q := by
  have hB2 := hB
  obtain ⟨b0, b1, b2, b4, b5⟩ := hB2
  refine gC_of rfl (Nat.le_of_ble_eq_true rfl) (L := [(0, .ref c), (1, .ref b), (2, .long x0), (4, .long y0)]) rfl ?_
  refine G_lload_n (pc := 0) 2 dX0_correct_0 rfl ?_
  refine G_sn4 (pc := 1) (gSt_l dX0_correct_1 (by decide)) rfl ?_
  refine G_lload (pc := 3) 3 dX0_correct_3 rfl ?_
  refine G_sn5 (pc := 5) (gSt_l dX0_correct_5 (by decide)) rfl ?_
  refine G_aload_n (pc := 7) 1 dX0_correct_7 rfl ?_
  refine G_getR (pc := 8) dX0_correct_8 fX0_16 (by assumption) (by assumption) ?_
  refine G_iconst (pc := 11) (v := 2) dX0_correct_11 rfl ?_
  refine gV1 (pc := 12) (k' := 0) (n' := 0) dX0_correct_12 lkX0_24 ⟨by decide, by decide⟩ (Nat.le_of_ble_eq_true rfl) rfl rfl ⟨by decide, by decide⟩ b5.1 (c_X4_at (j := 2) b5 (by decide) ?_)
  dsimp only [gRt]
  rw [hm]
  refine G_sn6 (pc := 15) (gSt_i dX0_correct_15 (by decide)) rfl ?_
  refine G_iconst (pc := 17) (v := 1) dX0_correct_17 rfl ?_
  refine G_sn7 (pc := 18) (gSt_i dX0_correct_18 (by decide)) rfl ?_
  exact lp_X0_correct hB hC hA hV hm hm2 h0 h1 m 0 x0 y0 l (Nat.zero_add m) (fun _ _ => rfl) rfl

def lyM (T : gTy) (r : gR) (m : Nat) : Prop := (T.2 m).1 = 12 ∧ r m 0 = some (m + 1) ∧ r m 1 = some (m + 2) ∧ r m 2 = some (m + 3) ∧ r m 4 = some (m + 4) ∧ r m 9 = some (m + 5) ∧ T.2 (m + 1) = (13, 853) ∧ T.2 (m + 2) = (13, 853) ∧ T.2 (m + 3) = (13, 3412) ∧ T.2 (m + 4) = (13, 60) ∧ T.2 (m + 5) = (13, 5)
/-- the terms of the flat state s -/
def mv (s : Nat → Int32) (n : Nat) (f : Nat → Int32) (p q : Nat → Nat) : Prop := n ≤ 6 ∧ s 0 = nI n ∧ ∀ k, k < n → s (5 + 3 * k + 0) = f k ∧ s (5 + 3 * k + 1) = nI (p k) ∧ s (5 + 3 * k + 2) = nI (q k) ∧ p k + q k ≤ 3

set_option maxRecDepth 100000 in
set_option maxHeartbeats 4000000 in
theorem c_X12_termPart {Γ : gG} {T : gTy} {r : gR} {l : gLg} {i : gI} {Q : gQ} {m k w : Nat} (hM : lyM T r m) (hk : 5 + 3 * k + w < 853) (hQ : Q (some (.int (i (m + 1) (5 + 3 * k + w)))) T r l i) : gC Γ MX12_termPart [.ref m, .int (nI k), .int (nI w)] T r l i Q := by
  obtain ⟨m0, m1, m2, m3, m4, m5, m6, m7, m8, m9, m10⟩ := hM
  refine gC_of rfl (Nat.le_of_ble_eq_true rfl) (L := [(0, .ref m), (1, .int (nI k)), (2, .int (nI w))]) rfl ?_
  refine G_aload_n (pc := 0) 0 dX12_termPart_0 rfl ?_
  refine G_getR (pc := 1) dX12_termPart_1 fX12_7 (by assumption) (by assumption) ?_
  refine G_iconst (pc := 4) (v := 5) dX12_termPart_4 rfl ?_
  refine G_iconst (pc := 5) (v := 3) dX12_termPart_5 rfl ?_
  refine G_iload_n (pc := 6) 1 dX12_termPart_6 rfl ?_
  refine G_imul (pc := 7) dX12_termPart_7 ?_
  refine G_iadd (pc := 8) dX12_termPart_8 ?_
  refine G_iload_n (pc := 9) 2 dX12_termPart_9 rfl ?_
  refine G_iadd (pc := 10) dX12_termPart_10 ?_
  refine G_ialdJ (pc := 11) (j := 5 + 3 * k + w) dX12_termPart_11 (by assumption) (by simp only [gl5, gl3, pk_mul, nI_add]) (by first | assumption | omega) (by decide) ?_
  refine G_iret (pc := 12) dX12_termPart_12 ⟨_, rfl, rfl⟩ ⟨by decide, by decide⟩ ?_
  exact hQ

set_option maxRecDepth 100000 in
set_option maxHeartbeats 4000000 in
theorem c_X12_given {Γ : gG} {T : gTy} {r : gR} {l : gLg} {i : gI} {Q : gQ} {m n : Nat} {x y : Int32} {f : Nat → Int32} {p q : Nat → Nat} {k w : Nat} (hM : lyM T r m) (hV : mv (i (m + 1)) n f p q) (hk : k < n) (hw : w ≤ 2) (hQ : Q (some (.long (gvn f p q x.toInt64 y.toInt64 w k))) T r l i) : gC Γ MX12_given [.ref m, .int (nI k), .int x, .int y, .int (nI w)] T r l i Q := by
  have hM2 := hM
  obtain ⟨m0, m1, m2, m3, m4, m5, m6, m7, m8, m9, m10⟩ := hM
  obtain ⟨n6, n0, hv⟩ := hV
  obtain ⟨v1, v2, v3, v4⟩ := hv k hk
  refine gC_of rfl (Nat.le_of_ble_eq_true rfl) (L := [(0, .ref m), (1, .int (nI k)), (2, .int x), (3, .int y), (4, .int (nI w))]) rfl ?_
  refine G_aload_n (pc := 0) 0 dX12_given_0 rfl ?_
  refine G_iload_n (pc := 1) 1 dX12_given_1 rfl ?_
  refine G_iconst (pc := 2) (v := 1) dX12_given_2 rfl ?_
  refine gV2 (pc := 3) (k' := 0) (n' := 0) dX12_given_3 lkX12_37 ⟨by decide, by decide⟩ (Nat.le_of_ble_eq_true rfl) rfl rfl ⟨by decide, by decide⟩ (by assumption) (c_X12_termPart (k := k) (w := 1) hM2 (by omega) ?_)
  dsimp only [gRt]
  rw [v2]
  refine G_sn5 (pc := 6) (gSt_i dX12_given_6 (by decide)) rfl ?_
  refine G_aload_n (pc := 8) 0 dX12_given_8 rfl ?_
  refine G_iload_n (pc := 9) 1 dX12_given_9 rfl ?_
  refine G_iconst (pc := 10) (v := 2) dX12_given_10 rfl ?_
  refine gV2 (pc := 11) (k' := 0) (n' := 0) dX12_given_11 lkX12_37 ⟨by decide, by decide⟩ (Nat.le_of_ble_eq_true rfl) rfl rfl ⟨by decide, by decide⟩ (by assumption) (c_X12_termPart (k := k) (w := 2) hM2 (by omega) ?_)
  dsimp only [gRt]
  rw [v3]
  refine G_sn6 (pc := 14) (gSt_i dX12_given_14 (by decide)) rfl ?_
  refine G_aload_n (pc := 16) 0 dX12_given_16 rfl ?_
  refine G_iload_n (pc := 17) 1 dX12_given_17 rfl ?_
  refine G_iconst (pc := 18) (v := 0) dX12_given_18 rfl ?_
  refine gV2 (pc := 19) (k' := 0) (n' := 0) dX12_given_19 lkX12_37 ⟨by decide, by decide⟩ (Nat.le_of_ble_eq_true rfl) rfl rfl ⟨by decide, by decide⟩ (by assumption) (c_X12_termPart (k := k) (w := 0) hM2 (by omega) ?_)
  dsimp only [gRt]
  rw [v1]
  refine G_i2l (pc := 22) dX12_given_22 ?_
  refine G_ldc2 (pc := 23) dX12_given_23 kcX12_41 ?_
  refine G_iconst (pc := 26) (v := 3) dX12_given_26 rfl ?_
  refine G_iload (pc := 27) 5 dX12_given_27 rfl ?_
  refine G_isub (pc := 29) dX12_given_29 ?_
  refine G_iload (pc := 30) 6 dX12_given_30 rfl ?_
  refine G_isub (pc := 32) dX12_given_32 ?_
  rw [nI_sub3 v4]
  refine gS2 (pc := 33) (k' := 0) (n' := 0) dX12_given_33 lkX12_43 ⟨by decide, by decide⟩ (Nat.le_of_ble_eq_true rfl) rfl rfl ⟨by decide, by decide⟩ (c_X12_power (by omega) ?_)
  dsimp only [gRt]
  refine G_lmul (pc := 36) dX12_given_36 ?_
  rw [show (f k).toInt64 * gPow 256 (3 - p k - q k) = gW f p q k from rfl]
  refine G_sn7 (pc := 37) (gSt_l dX12_given_37 (by decide)) rfl ?_
  refine G_iload (pc := 39) 4 dX12_given_39 rfl ?_
  refine G_iconst (pc := 41) (v := 1) dX12_given_41 rfl ?_
  refine G_icmp_ne (pc := 42) (tgt := 79) dX12_given_42 (by decide) (fun h42 => ?_) (fun h42 => ?_)
  · refine G_iload (pc := 79) 4 dX12_given_79 rfl ?_
    refine G_iconst (pc := 81) (v := 2) dX12_given_81 rfl ?_
    refine G_icmp_ne (pc := 82) (tgt := 119) dX12_given_82 (by decide) (fun h82 => ?_) (fun h82 => ?_)
    · refine G_lload (pc := 119) 7 dX12_given_119 rfl ?_
      refine G_iload_n (pc := 121) 2 dX12_given_121 rfl ?_
      refine G_i2l (pc := 122) dX12_given_122 ?_
      refine G_iload (pc := 123) 5 dX12_given_123 rfl ?_
      refine gS2 (pc := 125) (k' := 0) (n' := 0) dX12_given_125 lkX12_43 ⟨by decide, by decide⟩ (Nat.le_of_ble_eq_true rfl) rfl rfl ⟨by decide, by decide⟩ (c_X12_power (by omega) ?_)
      dsimp only [gRt]
      refine G_lmul (pc := 128) dX12_given_128 ?_
      refine G_iload_n (pc := 129) 3 dX12_given_129 rfl ?_
      refine G_i2l (pc := 130) dX12_given_130 ?_
      refine G_iload (pc := 131) 6 dX12_given_131 rfl ?_
      refine gS2 (pc := 133) (k' := 0) (n' := 0) dX12_given_133 lkX12_43 ⟨by decide, by decide⟩ (Nat.le_of_ble_eq_true rfl) rfl rfl ⟨by decide, by decide⟩ (c_X12_power (by omega) ?_)
      dsimp only [gRt]
      refine G_lmul (pc := 136) dX12_given_136 ?_
      refine G_lret (pc := 137) dX12_given_137 rfl ⟨by decide, by decide⟩ ?_
      have hw1 : ¬ w = 1 := fun z => h42 (by rw [z]; rfl)
      have hw2 : ¬ w = 2 := fun z => h82 (by rw [z]; rfl)
      simp only [gvn, hw1, hw2, if_false] at hQ
      exact hQ
    · refine G_iload (pc := 85) 6 dX12_given_85 rfl ?_
      refine G_if_ne (pc := 87) (tgt := 94) dX12_given_87 (by decide) (fun h87 => ?_) (fun h87 => ?_)
      · refine G_lload (pc := 94) 7 dX12_given_94 rfl ?_
        refine G_iload (pc := 96) 6 dX12_given_96 rfl ?_
        refine G_i2l (pc := 98) dX12_given_98 ?_
        refine G_lmul (pc := 99) dX12_given_99 ?_
        refine G_iload_n (pc := 100) 2 dX12_given_100 rfl ?_
        refine G_i2l (pc := 101) dX12_given_101 ?_
        refine G_iload (pc := 102) 5 dX12_given_102 rfl ?_
        refine gS2 (pc := 104) (k' := 0) (n' := 0) dX12_given_104 lkX12_43 ⟨by decide, by decide⟩ (Nat.le_of_ble_eq_true rfl) rfl rfl ⟨by decide, by decide⟩ (c_X12_power (by omega) ?_)
        dsimp only [gRt]
        refine G_lmul (pc := 107) dX12_given_107 ?_
        refine G_iload_n (pc := 108) 3 dX12_given_108 rfl ?_
        refine G_i2l (pc := 109) dX12_given_109 ?_
        refine G_iload (pc := 110) 6 dX12_given_110 rfl ?_
        refine G_iconst (pc := 112) (v := 1) dX12_given_112 rfl ?_
        refine G_isub (pc := 113) dX12_given_113 ?_
        rw [nI_pr0 (by omega) h87]
        refine gS2 (pc := 114) (k' := 0) (n' := 0) dX12_given_114 lkX12_43 ⟨by decide, by decide⟩ (Nat.le_of_ble_eq_true rfl) rfl rfl ⟨by decide, by decide⟩ (c_X12_power (by omega) ?_)
        dsimp only [gRt]
        refine G_lmul (pc := 117) dX12_given_117 ?_
        refine G_lret (pc := 118) dX12_given_118 rfl ⟨by decide, by decide⟩ ?_
        have hw : w = 2 := (nI_eq (by omega) (by decide)).mp h82
        subst hw
        have hz : ¬ q k = 0 := fun z => h87 (by rw [z]; rfl)
        simp only [gvn, hz, if_true, if_false] at hQ
        exact hQ
      · refine G_lconst (pc := 90) (v := 0) dX12_given_90 rfl ?_
        refine G_goto (pc := 91) (tgt := 118) dX12_given_91 (by decide) ?_
        refine G_lret (pc := 118) dX12_given_118 rfl ⟨by decide, by decide⟩ ?_
        have hw : w = 2 := (nI_eq (by omega) (by decide)).mp h82
        subst hw
        have hz : q k = 0 := (nI_eq (by omega) (by decide)).mp h87
        simp only [gvn, hz, if_true, if_false] at hQ
        exact hQ
  · refine G_iload (pc := 45) 5 dX12_given_45 rfl ?_
    refine G_if_ne (pc := 47) (tgt := 54) dX12_given_47 (by decide) (fun h47 => ?_) (fun h47 => ?_)
    · refine G_lload (pc := 54) 7 dX12_given_54 rfl ?_
      refine G_iload (pc := 56) 5 dX12_given_56 rfl ?_
      refine G_i2l (pc := 58) dX12_given_58 ?_
      refine G_lmul (pc := 59) dX12_given_59 ?_
      refine G_iload_n (pc := 60) 2 dX12_given_60 rfl ?_
      refine G_i2l (pc := 61) dX12_given_61 ?_
      refine G_iload (pc := 62) 5 dX12_given_62 rfl ?_
      refine G_iconst (pc := 64) (v := 1) dX12_given_64 rfl ?_
      refine G_isub (pc := 65) dX12_given_65 ?_
      rw [nI_pr0 (by omega) h47]
      refine gS2 (pc := 66) (k' := 0) (n' := 0) dX12_given_66 lkX12_43 ⟨by decide, by decide⟩ (Nat.le_of_ble_eq_true rfl) rfl rfl ⟨by decide, by decide⟩ (c_X12_power (by omega) ?_)
      dsimp only [gRt]
      refine G_lmul (pc := 69) dX12_given_69 ?_
      refine G_iload_n (pc := 70) 3 dX12_given_70 rfl ?_
      refine G_i2l (pc := 71) dX12_given_71 ?_
      refine G_iload (pc := 72) 6 dX12_given_72 rfl ?_
      refine gS2 (pc := 74) (k' := 0) (n' := 0) dX12_given_74 lkX12_43 ⟨by decide, by decide⟩ (Nat.le_of_ble_eq_true rfl) rfl rfl ⟨by decide, by decide⟩ (c_X12_power (by omega) ?_)
      dsimp only [gRt]
      refine G_lmul (pc := 77) dX12_given_77 ?_
      refine G_lret (pc := 78) dX12_given_78 rfl ⟨by decide, by decide⟩ ?_
      have hw : w = 1 := (nI_eq (by omega) (by decide)).mp h42
      subst hw
      have hz : ¬ p k = 0 := fun z => h47 (by rw [z]; rfl)
      simp only [gvn, hz, if_true, if_false] at hQ
      exact hQ
    · refine G_lconst (pc := 50) (v := 0) dX12_given_50 rfl ?_
      refine G_goto (pc := 51) (tgt := 78) dX12_given_51 (by decide) ?_
      refine G_lret (pc := 78) dX12_given_78 rfl ⟨by decide, by decide⟩ ?_
      have hw : w = 1 := (nI_eq (by omega) (by decide)).mp h42
      subst hw
      have hz : p k = 0 := (nI_eq (by omega) (by decide)).mp h47
      simp only [gvn, hz, if_true, if_false] at hQ
      exact hQ

set_option maxRecDepth 100000 in
set_option maxHeartbeats 4000000 in
theorem lp_X12_sum {Γ : gG} {T : gTy} {r : gR} {l : gLg} {i : gI} {Q : gQ} {m n : Nat} {x y : Int32} {f : Nat → Int32} {p q : Nat → Nat} {w : Nat} (hM : lyM T r m) (hV : mv (i (m + 1)) n f p q) (hw : w ≤ 2) (hQ : Q (some (.long (gSum f p q x.toInt64 y.toInt64 w n))) T r l i) : ∀ d k, k + d = n → G Γ MX12_sum 0 0 6 [(0, .ref m), (1, .int x), (2, .int y), (3, .int (nI w)), (4, .long (gSum f p q x.toInt64 y.toInt64 w k)), (6, .int (nI k))] [] T r l i Q := by
  have hM2 := hM
  obtain ⟨m0, m1, m2, m3, m4, m5, m6, m7, m8, m9, m10⟩ := hM
  obtain ⟨n6, n0, hv⟩ := id hV
  intro d
  induction d with
  | zero =>
    intro k hk
    obtain rfl : k = n := by omega
    refine G_iload (pc := 6) 5 dX12_sum_6 rfl ?_
    refine G_aload_n (pc := 8) 0 dX12_sum_8 rfl ?_
    refine G_getR (pc := 9) dX12_sum_9 fX12_7 (by assumption) (by assumption) ?_
    refine G_iconst (pc := 12) (v := 0) dX12_sum_12 rfl ?_
    refine G_ialdJ (pc := 13) (j := 0) dX12_sum_13 (by assumption) gl0 (by first | assumption | omega) (by decide) ?_
    refine G_icmp_ge (pc := 14) (tgt := 37) dX12_sum_14 (by decide) (fun h14 => ?_) (fun h14 => ?_)
    · refine G_lload (pc := 37) 4 dX12_sum_37 rfl ?_
      refine G_lret (pc := 39) dX12_sum_39 rfl ⟨by decide, by decide⟩ ?_
      exact hQ
    · exact absurd (by rw [n0]; exact Int32.le_refl _) h14
  | succ d ih =>
    intro k hk
    refine G_iload (pc := 6) 5 dX12_sum_6 rfl ?_
    refine G_aload_n (pc := 8) 0 dX12_sum_8 rfl ?_
    refine G_getR (pc := 9) dX12_sum_9 fX12_7 (by assumption) (by assumption) ?_
    refine G_iconst (pc := 12) (v := 0) dX12_sum_12 rfl ?_
    refine G_ialdJ (pc := 13) (j := 0) dX12_sum_13 (by assumption) gl0 (by first | assumption | omega) (by decide) ?_
    refine G_icmp_ge (pc := 14) (tgt := 37) dX12_sum_14 (by decide) (fun h14 => ?_) (fun h14 => ?_)
    · exact absurd h14 (by rw [n0]; exact nI_ge (by omega) (by omega))
    · refine G_lload (pc := 17) 4 dX12_sum_17 rfl ?_
      refine G_aload_n (pc := 19) 0 dX12_sum_19 rfl ?_
      refine G_iload (pc := 20) 5 dX12_sum_20 rfl ?_
      refine G_iload_n (pc := 22) 1 dX12_sum_22 rfl ?_
      refine G_iload_n (pc := 23) 2 dX12_sum_23 rfl ?_
      refine G_iload_n (pc := 24) 3 dX12_sum_24 rfl ?_
      refine gV4 (pc := 25) (k' := 0) (n' := 0) dX12_sum_25 lkX12_47 ⟨by decide, by decide⟩ (Nat.le_of_ble_eq_true rfl) rfl rfl ⟨by decide, by decide⟩ (by assumption) (c_X12_given hM2 hV (by omega) hw ?_)
      dsimp only [gRt]
      refine G_ladd (pc := 28) dX12_sum_28 ?_
      refine G_st4 (pc := 29) (gSt_l dX12_sum_29 (by decide)) rfl ?_
      refine G_inc5 (pc := 31) (v := 1) dX12_sum_31 rfl (by decide) rfl ?_
      refine G_goto (pc := 34) (tgt := 6) dX12_sum_34 (by decide) ?_
      rw [nI_1]
      exact ih (k + 1) (by omega)

set_option maxRecDepth 100000 in
set_option maxHeartbeats 4000000 in
theorem c_X12_sum {Γ : gG} {T : gTy} {r : gR} {l : gLg} {i : gI} {Q : gQ} {m n : Nat} {x y : Int32} {f : Nat → Int32} {p q : Nat → Nat} {w : Nat} (hM : lyM T r m) (hV : mv (i (m + 1)) n f p q) (hw : w ≤ 2) (hQ : Q (some (.long (gSum f p q x.toInt64 y.toInt64 w n))) T r l i) : gC Γ MX12_sum [.ref m, .int x, .int y, .int (nI w)] T r l i Q := by
  refine gC_of rfl (Nat.le_of_ble_eq_true rfl) (L := [(0, .ref m), (1, .int x), (2, .int y), (3, .int (nI w))]) rfl ?_
  refine G_lconst (pc := 0) (v := 0) dX12_sum_0 rfl ?_
  refine G_sn4 (pc := 1) (gSt_l dX12_sum_1 (by decide)) rfl ?_
  refine G_iconst (pc := 3) (v := 0) dX12_sum_3 rfl ?_
  refine G_sn5 (pc := 4) (gSt_i dX12_sum_4 (by decide)) rfl ?_
  exact lp_X12_sum hM hV hw hQ n 0 (Nat.zero_add n)

set_option maxRecDepth 100000 in
set_option maxHeartbeats 4000000 in
theorem c_X12_goesRound {Γ : gG} {T : gTy} {r : gR} {l : gLg} {i : gI} {Q : gQ} {m n : Nat} {f : Nat → Int32} {p q : Nat → Nat} (hM : lyM T r m) (hA : gN Γ ≤ m) (hV : mv (i (m + 1)) n f p q)
  (ha : gGG f p q n (i m 6).toInt64 (i m 7).toInt64 = 0 → Q (some (.int 0)) T r l (up2 i m 8 (-1)))
  (hb : ¬ gGG f p q n (i m 6).toInt64 (i m 7).toInt64 = 0 → ¬ (inB ((i m 6).toInt64 - gSum f p q (i m 6).toInt64 (i m 7).toInt64 0 n * gSum f p q (i m 6).toInt64 (i m 7).toInt64 1 n / gGG f p q n (i m 6).toInt64 (i m 7).toInt64) ∧ inB ((i m 7).toInt64 - gSum f p q (i m 6).toInt64 (i m 7).toInt64 0 n * gSum f p q (i m 6).toInt64 (i m 7).toInt64 2 n / gGG f p q n (i m 6).toInt64 (i m 7).toInt64)) → Q (some (.int 0)) T r l (up2 i m 8 (-1)))
  (hc : ¬ gGG f p q n (i m 6).toInt64 (i m 7).toInt64 = 0 → inB ((i m 6).toInt64 - gSum f p q (i m 6).toInt64 (i m 7).toInt64 0 n * gSum f p q (i m 6).toInt64 (i m 7).toInt64 1 n / gGG f p q n (i m 6).toInt64 (i m 7).toInt64) ∧ inB ((i m 7).toInt64 - gSum f p q (i m 6).toInt64 (i m 7).toInt64 0 n * gSum f p q (i m 6).toInt64 (i m 7).toInt64 2 n / gGG f p q n (i m 6).toInt64 (i m 7).toInt64) → Q (some (.int (gB (¬ (((i m 6).toInt64 - gSum f p q (i m 6).toInt64 (i m 7).toInt64 0 n * gSum f p q (i m 6).toInt64 (i m 7).toInt64 1 n / gGG f p q n (i m 6).toInt64 (i m 7).toInt64) = (i m 6).toInt64 ∧ ((i m 7).toInt64 - gSum f p q (i m 6).toInt64 (i m 7).toInt64 0 n * gSum f p q (i m 6).toInt64 (i m 7).toInt64 2 n / gGG f p q n (i m 6).toInt64 (i m 7).toInt64) = (i m 7).toInt64))))) T r l (up2 (up2 (up2 i m 6 ((i m 6).toInt64 - gSum f p q (i m 6).toInt64 (i m 7).toInt64 0 n * gSum f p q (i m 6).toInt64 (i m 7).toInt64 1 n / gGG f p q n (i m 6).toInt64 (i m 7).toInt64).toInt32) m 7 ((i m 7).toInt64 - gSum f p q (i m 6).toInt64 (i m 7).toInt64 0 n * gSum f p q (i m 6).toInt64 (i m 7).toInt64 2 n / gGG f p q n (i m 6).toInt64 (i m 7).toInt64).toInt32) m 8 (i m 8 + 1))) : gC Γ MX12_goesRound [.ref m] T r l i Q := by
  have hM2 := hM
  obtain ⟨m0, m1, m2, m3, m4, m5, m6, m7, m8, m9, m10⟩ := hM
  refine gC_of rfl (Nat.le_of_ble_eq_true rfl) (L := [(0, .ref m)]) rfl ?_
  refine G_aload_n (pc := 0) 0 dX12_goesRound_0 rfl ?_
  refine G_aload_n (pc := 1) 0 dX12_goesRound_1 rfl ?_
  refine G_getI (pc := 2) dX12_goesRound_2 fX12_55 (by assumption) ?_
  refine G_aload_n (pc := 5) 0 dX12_goesRound_5 rfl ?_
  refine G_getI (pc := 6) dX12_goesRound_6 fX12_58 (by assumption) ?_
  refine G_iconst (pc := 9) (v := 1) dX12_goesRound_9 rfl ?_
  refine gV3 (pc := 10) (k' := 0) (n' := 0) dX12_goesRound_10 lkX12_61 ⟨by decide, by decide⟩ (Nat.le_of_ble_eq_true rfl) rfl rfl ⟨by decide, by decide⟩ (by assumption) (c_X12_sum (w := 1) hM2 hV (by decide) ?_)
  dsimp only [gRt]
  refine G_sn1 (pc := 13) (gSt_ln dX12_goesRound_13 rfl (by decide)) rfl ?_
  refine G_aload_n (pc := 14) 0 dX12_goesRound_14 rfl ?_
  refine G_aload_n (pc := 15) 0 dX12_goesRound_15 rfl ?_
  refine G_getI (pc := 16) dX12_goesRound_16 fX12_55 (by assumption) ?_
  refine G_aload_n (pc := 19) 0 dX12_goesRound_19 rfl ?_
  refine G_getI (pc := 20) dX12_goesRound_20 fX12_58 (by assumption) ?_
  refine G_iconst (pc := 23) (v := 2) dX12_goesRound_23 rfl ?_
  refine gV3 (pc := 24) (k' := 0) (n' := 0) dX12_goesRound_24 lkX12_61 ⟨by decide, by decide⟩ (Nat.le_of_ble_eq_true rfl) rfl rfl ⟨by decide, by decide⟩ (by assumption) (c_X12_sum (w := 2) hM2 hV (by decide) ?_)
  dsimp only [gRt]
  refine G_sn2 (pc := 27) (gSt_ln dX12_goesRound_27 rfl (by decide)) rfl ?_
  refine G_lload_n (pc := 28) 1 dX12_goesRound_28 rfl ?_
  refine G_lload_n (pc := 29) 1 dX12_goesRound_29 rfl ?_
  refine G_lmul (pc := 30) dX12_goesRound_30 ?_
  refine G_lload_n (pc := 31) 2 dX12_goesRound_31 rfl ?_
  refine G_lload_n (pc := 32) 2 dX12_goesRound_32 rfl ?_
  refine G_lmul (pc := 33) dX12_goesRound_33 ?_
  refine G_ladd (pc := 34) dX12_goesRound_34 ?_
  refine G_sn3 (pc := 35) (gSt_l dX12_goesRound_35 (by decide)) rfl ?_
  refine G_lload (pc := 37) 3 dX12_goesRound_37 rfl ?_
  refine G_lconst (pc := 39) (v := 0) dX12_goesRound_39 rfl ?_
  refine G_lif_ne (pc := 40) (tgt := 51) dX12_goesRound_40 dX12_goesRound_41 (by decide) (fun h40 => ?_) (fun h40 => ?_)
  · refine G_aload_n (pc := 51) 0 dX12_goesRound_51 rfl ?_
    refine G_aload_n (pc := 52) 0 dX12_goesRound_52 rfl ?_
    refine G_getI (pc := 53) dX12_goesRound_53 fX12_55 (by assumption) ?_
    refine G_aload_n (pc := 56) 0 dX12_goesRound_56 rfl ?_
    refine G_getI (pc := 57) dX12_goesRound_57 fX12_58 (by assumption) ?_
    refine G_iconst (pc := 60) (v := 0) dX12_goesRound_60 rfl ?_
    refine gV3 (pc := 61) (k' := 0) (n' := 0) dX12_goesRound_61 lkX12_61 ⟨by decide, by decide⟩ (Nat.le_of_ble_eq_true rfl) rfl rfl ⟨by decide, by decide⟩ (by assumption) (c_X12_sum (w := 0) hM2 hV (by decide) ?_)
    dsimp only [gRt]
    refine G_sn4 (pc := 64) (gSt_l dX12_goesRound_64 (by decide)) rfl ?_
    refine G_aload_n (pc := 66) 0 dX12_goesRound_66 rfl ?_
    refine G_getI (pc := 67) dX12_goesRound_67 fX12_55 (by assumption) ?_
    refine G_i2l (pc := 70) dX12_goesRound_70 ?_
    refine G_lload (pc := 71) 4 dX12_goesRound_71 rfl ?_
    refine G_lload_n (pc := 73) 1 dX12_goesRound_73 rfl ?_
    refine G_lmul (pc := 74) dX12_goesRound_74 ?_
    refine G_lload (pc := 75) 3 dX12_goesRound_75 rfl ?_
    refine G_ldiv (pc := 77) dX12_goesRound_77 h40 ?_
    refine G_lsub (pc := 78) dX12_goesRound_78 ?_
    refine G_sn5 (pc := 79) (gSt_l dX12_goesRound_79 (by decide)) rfl ?_
    refine G_aload_n (pc := 81) 0 dX12_goesRound_81 rfl ?_
    refine G_getI (pc := 82) dX12_goesRound_82 fX12_58 (by assumption) ?_
    refine G_i2l (pc := 85) dX12_goesRound_85 ?_
    refine G_lload (pc := 86) 4 dX12_goesRound_86 rfl ?_
    refine G_lload_n (pc := 88) 2 dX12_goesRound_88 rfl ?_
    refine G_lmul (pc := 89) dX12_goesRound_89 ?_
    refine G_lload (pc := 90) 3 dX12_goesRound_90 rfl ?_
    refine G_ldiv (pc := 92) dX12_goesRound_92 h40 ?_
    refine G_lsub (pc := 93) dX12_goesRound_93 ?_
    refine G_sn6 (pc := 94) (gSt_l dX12_goesRound_94 (by decide)) rfl ?_
    refine G_lload (pc := 96) 5 dX12_goesRound_96 rfl ?_
    refine G_ldc2 (pc := 98) dX12_goesRound_98 kcX12_68 ?_
    refine G_lif_lt (pc := 101) (tgt := 132) dX12_goesRound_101 dX12_goesRound_102 (by decide) (fun h101 => ?_) (fun h101 => ?_)
    · refine G_aload_n (pc := 132) 0 dX12_goesRound_132 rfl ?_
      refine G_iconst (pc := 133) (v := (-1)) dX12_goesRound_133 rfl ?_
      refine G_putI (pc := 134) dX12_goesRound_134 fX12_65 (by assumption) rfl rfl (by first | assumption | omega) ?_
      refine G_iconst (pc := 137) (v := 0) dX12_goesRound_137 rfl ?_
      refine G_iret (pc := 138) dX12_goesRound_138 ⟨_, rfl, rfl⟩ ⟨by decide, by decide⟩ ?_
      exact hb h40 (fun q => q.1.1 h101)
    · refine G_lload (pc := 105) 5 dX12_goesRound_105 rfl ?_
      refine G_ldc2 (pc := 107) dX12_goesRound_107 kcX12_70 ?_
      refine G_lif_gt (pc := 110) (tgt := 132) dX12_goesRound_110 dX12_goesRound_111 (by decide) (fun h110 => ?_) (fun h110 => ?_)
      · refine G_aload_n (pc := 132) 0 dX12_goesRound_132 rfl ?_
        refine G_iconst (pc := 133) (v := (-1)) dX12_goesRound_133 rfl ?_
        refine G_putI (pc := 134) dX12_goesRound_134 fX12_65 (by assumption) rfl rfl (by first | assumption | omega) ?_
        refine G_iconst (pc := 137) (v := 0) dX12_goesRound_137 rfl ?_
        refine G_iret (pc := 138) dX12_goesRound_138 ⟨_, rfl, rfl⟩ ⟨by decide, by decide⟩ ?_
        exact hb h40 (fun q => q.1.2 h110)
      · refine G_lload (pc := 114) 6 dX12_goesRound_114 rfl ?_
        refine G_ldc2 (pc := 116) dX12_goesRound_116 kcX12_68 ?_
        refine G_lif_lt (pc := 119) (tgt := 132) dX12_goesRound_119 dX12_goesRound_120 (by decide) (fun h119 => ?_) (fun h119 => ?_)
        · refine G_aload_n (pc := 132) 0 dX12_goesRound_132 rfl ?_
          refine G_iconst (pc := 133) (v := (-1)) dX12_goesRound_133 rfl ?_
          refine G_putI (pc := 134) dX12_goesRound_134 fX12_65 (by assumption) rfl rfl (by first | assumption | omega) ?_
          refine G_iconst (pc := 137) (v := 0) dX12_goesRound_137 rfl ?_
          refine G_iret (pc := 138) dX12_goesRound_138 ⟨_, rfl, rfl⟩ ⟨by decide, by decide⟩ ?_
          exact hb h40 (fun q => q.2.1 h119)
        · refine G_lload (pc := 123) 6 dX12_goesRound_123 rfl ?_
          refine G_ldc2 (pc := 125) dX12_goesRound_125 kcX12_70 ?_
          refine G_lif_le (pc := 128) (tgt := 139) dX12_goesRound_128 dX12_goesRound_129 (by decide) (fun h128 => ?_) (fun h128 => ?_)
          · refine G_lload (pc := 139) 5 dX12_goesRound_139 rfl ?_
            refine G_aload_n (pc := 141) 0 dX12_goesRound_141 rfl ?_
            refine G_getI (pc := 142) dX12_goesRound_142 fX12_55 (by assumption) ?_
            refine G_i2l (pc := 145) dX12_goesRound_145 ?_
            refine G_lif_ne (pc := 146) (tgt := 161) dX12_goesRound_146 dX12_goesRound_147 (by decide) (fun h146 => ?_) (fun h146 => ?_)
            · refine G_iconst (pc := 161) (v := 1) dX12_goesRound_161 rfl ?_
              refine G_goto (pc := 162) (tgt := 166) dX12_goesRound_162 (by decide) ?_
              refine G_sn7 (pc := 166) (gSt_i dX12_goesRound_166 (by decide)) rfl ?_
              refine G_aload_n (pc := 168) 0 dX12_goesRound_168 rfl ?_
              refine G_lload (pc := 169) 5 dX12_goesRound_169 rfl ?_
              refine G_l2i (pc := 171) dX12_goesRound_171 ?_
              refine G_putI (pc := 172) dX12_goesRound_172 fX12_55 (by assumption) rfl rfl (by first | assumption | omega) ?_
              refine G_aload_n (pc := 175) 0 dX12_goesRound_175 rfl ?_
              refine G_lload (pc := 176) 6 dX12_goesRound_176 rfl ?_
              refine G_l2i (pc := 178) dX12_goesRound_178 ?_
              refine G_putI (pc := 179) dX12_goesRound_179 fX12_58 (by assumption) rfl rfl (by first | assumption | omega) ?_
              refine G_aload_n (pc := 182) 0 dX12_goesRound_182 rfl ?_
              refine G_dup (pc := 183) dX12_goesRound_183 rfl ?_
              refine G_getI (pc := 184) dX12_goesRound_184 fX12_65 (by assumption) ?_
              rw [up2_row (by decide), up2_row (by decide)]
              refine G_iconst (pc := 187) (v := 1) dX12_goesRound_187 rfl ?_
              refine G_iadd (pc := 188) dX12_goesRound_188 ?_
              refine G_putI (pc := 189) dX12_goesRound_189 fX12_65 (by assumption) rfl rfl (by first | assumption | omega) ?_
              refine G_iload (pc := 192) 7 dX12_goesRound_192 rfl ?_
              refine G_iret (pc := 194) dX12_goesRound_194 ⟨_, rfl, rfl⟩ ⟨by decide, by decide⟩ ?_
              have hcc := hc h40 ⟨⟨h101, h110⟩, ⟨h119, Int64.not_lt.mpr h128⟩⟩
              rw [gB_t (c := ¬ (((i m 6).toInt64 - gSum f p q (i m 6).toInt64 (i m 7).toInt64 0 n * gSum f p q (i m 6).toInt64 (i m 7).toInt64 1 n / gGG f p q n (i m 6).toInt64 (i m 7).toInt64) = (i m 6).toInt64 ∧ ((i m 7).toInt64 - gSum f p q (i m 6).toInt64 (i m 7).toInt64 0 n * gSum f p q (i m 6).toInt64 (i m 7).toInt64 2 n / gGG f p q n (i m 6).toInt64 (i m 7).toInt64) = (i m 7).toInt64)) (fun z => h146 z.1)] at hcc
              exact hcc
            · refine G_lload (pc := 150) 6 dX12_goesRound_150 rfl ?_
              refine G_aload_n (pc := 152) 0 dX12_goesRound_152 rfl ?_
              refine G_getI (pc := 153) dX12_goesRound_153 fX12_58 (by assumption) ?_
              refine G_i2l (pc := 156) dX12_goesRound_156 ?_
              refine G_lif_eq (pc := 157) (tgt := 165) dX12_goesRound_157 dX12_goesRound_158 (by decide) (fun h157 => ?_) (fun h157 => ?_)
              · refine G_iconst (pc := 165) (v := 0) dX12_goesRound_165 rfl ?_
                refine G_sn7 (pc := 166) (gSt_i dX12_goesRound_166 (by decide)) rfl ?_
                refine G_aload_n (pc := 168) 0 dX12_goesRound_168 rfl ?_
                refine G_lload (pc := 169) 5 dX12_goesRound_169 rfl ?_
                refine G_l2i (pc := 171) dX12_goesRound_171 ?_
                refine G_putI (pc := 172) dX12_goesRound_172 fX12_55 (by assumption) rfl rfl (by first | assumption | omega) ?_
                refine G_aload_n (pc := 175) 0 dX12_goesRound_175 rfl ?_
                refine G_lload (pc := 176) 6 dX12_goesRound_176 rfl ?_
                refine G_l2i (pc := 178) dX12_goesRound_178 ?_
                refine G_putI (pc := 179) dX12_goesRound_179 fX12_58 (by assumption) rfl rfl (by first | assumption | omega) ?_
                refine G_aload_n (pc := 182) 0 dX12_goesRound_182 rfl ?_
                refine G_dup (pc := 183) dX12_goesRound_183 rfl ?_
                refine G_getI (pc := 184) dX12_goesRound_184 fX12_65 (by assumption) ?_
                rw [up2_row (by decide), up2_row (by decide)]
                refine G_iconst (pc := 187) (v := 1) dX12_goesRound_187 rfl ?_
                refine G_iadd (pc := 188) dX12_goesRound_188 ?_
                refine G_putI (pc := 189) dX12_goesRound_189 fX12_65 (by assumption) rfl rfl (by first | assumption | omega) ?_
                refine G_iload (pc := 192) 7 dX12_goesRound_192 rfl ?_
                refine G_iret (pc := 194) dX12_goesRound_194 ⟨_, rfl, rfl⟩ ⟨by decide, by decide⟩ ?_
                have hcc := hc h40 ⟨⟨h101, h110⟩, ⟨h119, Int64.not_lt.mpr h128⟩⟩
                rw [gB_f (c := ¬ (((i m 6).toInt64 - gSum f p q (i m 6).toInt64 (i m 7).toInt64 0 n * gSum f p q (i m 6).toInt64 (i m 7).toInt64 1 n / gGG f p q n (i m 6).toInt64 (i m 7).toInt64) = (i m 6).toInt64 ∧ ((i m 7).toInt64 - gSum f p q (i m 6).toInt64 (i m 7).toInt64 0 n * gSum f p q (i m 6).toInt64 (i m 7).toInt64 2 n / gGG f p q n (i m 6).toInt64 (i m 7).toInt64) = (i m 7).toInt64)) (fun z => z ⟨h146, h157⟩)] at hcc
                exact hcc
              · refine G_iconst (pc := 161) (v := 1) dX12_goesRound_161 rfl ?_
                refine G_goto (pc := 162) (tgt := 166) dX12_goesRound_162 (by decide) ?_
                refine G_sn7 (pc := 166) (gSt_i dX12_goesRound_166 (by decide)) rfl ?_
                refine G_aload_n (pc := 168) 0 dX12_goesRound_168 rfl ?_
                refine G_lload (pc := 169) 5 dX12_goesRound_169 rfl ?_
                refine G_l2i (pc := 171) dX12_goesRound_171 ?_
                refine G_putI (pc := 172) dX12_goesRound_172 fX12_55 (by assumption) rfl rfl (by first | assumption | omega) ?_
                refine G_aload_n (pc := 175) 0 dX12_goesRound_175 rfl ?_
                refine G_lload (pc := 176) 6 dX12_goesRound_176 rfl ?_
                refine G_l2i (pc := 178) dX12_goesRound_178 ?_
                refine G_putI (pc := 179) dX12_goesRound_179 fX12_58 (by assumption) rfl rfl (by first | assumption | omega) ?_
                refine G_aload_n (pc := 182) 0 dX12_goesRound_182 rfl ?_
                refine G_dup (pc := 183) dX12_goesRound_183 rfl ?_
                refine G_getI (pc := 184) dX12_goesRound_184 fX12_65 (by assumption) ?_
                rw [up2_row (by decide), up2_row (by decide)]
                refine G_iconst (pc := 187) (v := 1) dX12_goesRound_187 rfl ?_
                refine G_iadd (pc := 188) dX12_goesRound_188 ?_
                refine G_putI (pc := 189) dX12_goesRound_189 fX12_65 (by assumption) rfl rfl (by first | assumption | omega) ?_
                refine G_iload (pc := 192) 7 dX12_goesRound_192 rfl ?_
                refine G_iret (pc := 194) dX12_goesRound_194 ⟨_, rfl, rfl⟩ ⟨by decide, by decide⟩ ?_
                have hcc := hc h40 ⟨⟨h101, h110⟩, ⟨h119, Int64.not_lt.mpr h128⟩⟩
                rw [gB_t (c := ¬ (((i m 6).toInt64 - gSum f p q (i m 6).toInt64 (i m 7).toInt64 0 n * gSum f p q (i m 6).toInt64 (i m 7).toInt64 1 n / gGG f p q n (i m 6).toInt64 (i m 7).toInt64) = (i m 6).toInt64 ∧ ((i m 7).toInt64 - gSum f p q (i m 6).toInt64 (i m 7).toInt64 0 n * gSum f p q (i m 6).toInt64 (i m 7).toInt64 2 n / gGG f p q n (i m 6).toInt64 (i m 7).toInt64) = (i m 7).toInt64)) (fun z => h157 z.2)] at hcc
                exact hcc
          · refine G_aload_n (pc := 132) 0 dX12_goesRound_132 rfl ?_
            refine G_iconst (pc := 133) (v := (-1)) dX12_goesRound_133 rfl ?_
            refine G_putI (pc := 134) dX12_goesRound_134 fX12_65 (by assumption) rfl rfl (by first | assumption | omega) ?_
            refine G_iconst (pc := 137) (v := 0) dX12_goesRound_137 rfl ?_
            refine G_iret (pc := 138) dX12_goesRound_138 ⟨_, rfl, rfl⟩ ⟨by decide, by decide⟩ ?_
            exact hb h40 (fun q => q.2.2 (Int64.not_le.mp h128))
  · refine G_aload_n (pc := 44) 0 dX12_goesRound_44 rfl ?_
    refine G_iconst (pc := 45) (v := (-1)) dX12_goesRound_45 rfl ?_
    refine G_putI (pc := 46) dX12_goesRound_46 fX12_65 (by assumption) rfl rfl (by first | assumption | omega) ?_
    refine G_iconst (pc := 49) (v := 0) dX12_goesRound_49 rfl ?_
    refine G_iret (pc := 50) dX12_goesRound_50 ⟨_, rfl, rfl⟩ ⟨by decide, by decide⟩ ?_
    exact ha h40

/-- the reference's working fields may move, all else stays -/
def frM (m : Nat) (i i' : gI) : Prop := (∀ b, b ≠ m → i' b = i b) ∧ ∀ j, j ≠ 6 → j ≠ 7 → j ≠ 8 → i' m j = i m j
theorem frM.rfl' {m : Nat} {i : gI} : frM m i i := ⟨fun _ _ => rfl, fun _ _ _ _ => rfl⟩
theorem frM.put {m j : Nat} {i i' : gI} {x : Int32} (h : frM m i i') (hj : j = 6 ∨ j = 7 ∨ j = 8) : frM m i (up2 i' m j x) := ⟨fun b hb => by rw [up2_ne hb]; exact h.1 b hb, fun q h6 h7 h8 => by rw [up2_row (by omega)]; exact h.2 q h6 h7 h8⟩
theorem gCor_out {f : Nat → Int32} {p q : Nat → Nat} {n m rd : Nat} {x y : Int64} (h : ¬ (inB x ∧ inB y)) : gCor f p q n m rd x y = none := by
  cases m with
  | zero => rfl
  | succ m => rw [gCor, if_neg h]
theorem sub_z {x d : Int64} : x - d = x ↔ d = 0 := by
  constructor
  · intro h
    have h2 : x - (x - d) = x - x := by rw [h]
    rw [Int64.sub_self] at h2
    rw [show x - (x - d) = d by rw [Int64.sub_eq_add_neg, Int64.neg_sub, Int64.add_comm, Int64.sub_add_cancel]] at h2
    exact h2
  · intro h; rw [h, Int64.sub_zero]
theorem sub_eq {x y d e : Int64} (h : x - d = x ∧ y - e = y) : d = 0 ∧ e = 0 := ⟨sub_z.mp h.1, sub_z.mp h.2⟩
set_option maxRecDepth 100000 in
set_option maxHeartbeats 4000000 in
theorem lp_X12_corrects {Γ : gG} {T : gTy} {r : gR} {l : gLg} {i : gI} {Q : gQ} {m n mm : Nat} {x0 y0 : Int64} {f : Nat → Int32} {p q : Nat → Nat} (hM : lyM T r m) (hA : gN Γ ≤ m) (hV : mv (i (m + 1)) n f p q) (hm : i (m + 1) 4 = nI mm) (hm2 : mm < 2 ^ 30)
  (h0 : gCor f p q n mm 0 x0 y0 = none → ∀ i', frM m i i' → Q (some (.int 0)) T r l i')
  (h1 : ∀ x y rd, gCor f p q n mm 0 x0 y0 = some (x, y, rd) → ∀ i', frM m i i' → i' m 6 = x.toInt32 → i' m 7 = y.toInt32 → i' m 8 = nI rd → Q (some (.int 1)) T r l i') : ∀ d rd x y i1, rd + d = mm → frM m i i1 → (inB x ∧ inB y) → i1 m 6 = x.toInt32 → i1 m 7 = y.toInt32 → i1 m 8 = nI rd → gCor f p q n d rd x y = gCor f p q n mm 0 x0 y0 → G Γ MX12_corrects 0 0 51 [(0, .ref m), (1, .long x0), (3, .long y0)] [] T r l i1 Q := by
  have hM2 := hM
  obtain ⟨m0, m1, m2, m3, m4, m5, m6, m7, m8, m9, m10⟩ := hM
  intro d
  induction d with
  | zero =>
    intro rd x y i1 hk hi hin e6 e7 e8 hg
    refine G_aload_n (pc := 51) 0 dX12_corrects_51 rfl ?_
    refine G_getI (pc := 52) dX12_corrects_52 fX12_65 (by assumption) ?_
    refine G_aload_n (pc := 55) 0 dX12_corrects_55 rfl ?_
    refine G_getR (pc := 56) dX12_corrects_56 fX12_7 (by assumption) (by assumption) ?_
    refine G_iconst (pc := 59) (v := 4) dX12_corrects_59 rfl ?_
    refine G_ialdJ (pc := 60) (j := 4) dX12_corrects_60 m6 gl4 (by first | assumption | omega) (by decide) ?_
    refine G_icmp_ge (pc := 61) (tgt := 84) dX12_corrects_61 (by decide) (fun h61 => ?_) (fun h61 => ?_)
    · refine G_iconst (pc := 84) (v := 0) dX12_corrects_84 rfl ?_
      refine G_iret (pc := 85) dX12_corrects_85 ⟨_, rfl, rfl⟩ ⟨by decide, by decide⟩ ?_
      exact h0 (by rw [← hg]; rfl) i1 hi
    · exact absurd (show nI mm ≤ nI rd from nI_le (by omega) (by omega)) (by rw [e8, hi.1 (m + 1) (by omega), hm] at h61; exact h61)
  | succ d ih =>
    intro rd x y i1 hk hi hin e6 e7 e8 hg
    have e6x : (i1 m 6).toInt64 = x := by rw [e6, inB_tt hin.1]
    have e7x : (i1 m 7).toInt64 = y := by rw [e7, inB_tt hin.2]
    have hcor : gCor f p q n mm 0 x0 y0 = (if inB x ∧ inB y then (if gGG f p q n x y = 0 then none else if gSum f p q x y 0 n * gSum f p q x y 1 n / gGG f p q n x y = 0 ∧ gSum f p q x y 0 n * gSum f p q x y 2 n / gGG f p q n x y = 0 then some (x, y, rd + 1) else gCor f p q n d (rd + 1) (x - gSum f p q x y 0 n * gSum f p q x y 1 n / gGG f p q n x y) (y - gSum f p q x y 0 n * gSum f p q x y 2 n / gGG f p q n x y)) else none) := by rw [← hg, gCor]
    refine G_aload_n (pc := 51) 0 dX12_corrects_51 rfl ?_
    refine G_getI (pc := 52) dX12_corrects_52 fX12_65 (by assumption) ?_
    refine G_aload_n (pc := 55) 0 dX12_corrects_55 rfl ?_
    refine G_getR (pc := 56) dX12_corrects_56 fX12_7 (by assumption) (by assumption) ?_
    refine G_iconst (pc := 59) (v := 4) dX12_corrects_59 rfl ?_
    refine G_ialdJ (pc := 60) (j := 4) dX12_corrects_60 m6 gl4 (by first | assumption | omega) (by decide) ?_
    refine G_icmp_ge (pc := 61) (tgt := 84) dX12_corrects_61 (by decide) (fun h61 => ?_) (fun h61 => ?_)
    · exact absurd h61 (by rw [e8, hi.1 (m + 1) (by omega), hm]; exact nI_ge (by omega) (by omega))
    · skip
      refine G_aload_n 0 dX12_corrects_64 rfl ?_
      refine gV0 (k' := 0) (n' := 0) dX12_corrects_65 lkX12_72 ⟨by decide, by decide⟩ (Nat.le_of_ble_eq_true rfl) rfl rfl ⟨by decide, by decide⟩ (by assumption) (c_X12_goesRound (n := n) (f := f) (p := p) (q := q) hM2 hA (by rw [hi.1 (m + 1) (by omega)]; exact hV) ?_ ?_ ?_)
      · intro z1
        rw [e6x, e7x] at z1
        dsimp only [gRt]
        refine G_if_ne (pc := 68) (tgt := 51) dX12_corrects_68 (by decide) (fun h68 => ?_) (fun h68 => ?_)
        · exact absurd rfl h68
        · refine G_aload_n (pc := 71) 0 dX12_corrects_71 rfl ?_
          refine G_getI (pc := 72) dX12_corrects_72 fX12_65 (by assumption) ?_
          refine G_if_le (pc := 75) (tgt := 82) dX12_corrects_75 (by decide) (fun h75 => ?_) (fun h75 => ?_)
          · refine G_iconst (pc := 82) (v := 0) dX12_corrects_82 rfl ?_
            refine G_iret (pc := 83) dX12_corrects_83 ⟨_, rfl, rfl⟩ ⟨by decide, by decide⟩ ?_
            exact h0 (by rw [hcor, if_pos hin, if_pos z1]) _ (hi.put (by decide))
          · exact absurd (by rw [up2_self]; decide) h75
      · intro z1 z2
        rw [e6x, e7x] at z1 z2
        have hch : ¬ (gSum f p q x y 0 n * gSum f p q x y 1 n / gGG f p q n x y = 0 ∧ gSum f p q x y 0 n * gSum f p q x y 2 n / gGG f p q n x y = 0) := fun z => z2 (by rw [z.1, z.2, Int64.sub_zero, Int64.sub_zero]; exact hin)
        dsimp only [gRt]
        refine G_if_ne (pc := 68) (tgt := 51) dX12_corrects_68 (by decide) (fun h68 => ?_) (fun h68 => ?_)
        · exact absurd rfl h68
        · refine G_aload_n (pc := 71) 0 dX12_corrects_71 rfl ?_
          refine G_getI (pc := 72) dX12_corrects_72 fX12_65 (by assumption) ?_
          refine G_if_le (pc := 75) (tgt := 82) dX12_corrects_75 (by decide) (fun h75 => ?_) (fun h75 => ?_)
          · refine G_iconst (pc := 82) (v := 0) dX12_corrects_82 rfl ?_
            refine G_iret (pc := 83) dX12_corrects_83 ⟨_, rfl, rfl⟩ ⟨by decide, by decide⟩ ?_
            exact h0 (by rw [hcor, if_pos hin, if_neg z1, if_neg hch, gCor_out z2]) _ (hi.put (by decide))
          · exact absurd (by rw [up2_self]; decide) h75
      · intro z1 z2
        rw [e6x, e7x] at z1 z2
        rw [e6x, e7x]
        dsimp only [gRt]
        refine G_if_ne (pc := 68) (tgt := 51) dX12_corrects_68 (by decide) (fun h68 => ?_) (fun h68 => ?_)
        · have h68 := gB_ne.mp h68
          have hch : ¬ (gSum f p q x y 0 n * gSum f p q x y 1 n / gGG f p q n x y = 0 ∧ gSum f p q x y 0 n * gSum f p q x y 2 n / gGG f p q n x y = 0) := fun z => h68 (by rw [z.1, z.2, Int64.sub_zero, Int64.sub_zero]; exact ⟨rfl, rfl⟩)
          refine ih (rd + 1) _ _ _ (by omega) (((hi.put (by decide)).put (by decide)).put (by decide)) z2 ?_ ?_ ?_ ?_
          · rw [up2_row (by decide), up2_row (by decide), up2_self]
          · rw [up2_row (by decide), up2_self]
          · rw [up2_self, e8, nI_1]
          · rw [hcor, if_pos hin, if_neg z1, if_neg hch]
        · refine G_aload_n (pc := 71) 0 dX12_corrects_71 rfl ?_
          refine G_getI (pc := 72) dX12_corrects_72 fX12_65 (by assumption) ?_
          refine G_if_le (pc := 75) (tgt := 82) dX12_corrects_75 (by decide) (fun h75 => ?_) (fun h75 => ?_)
          · exact absurd h75 (by rw [up2_self, e8, nI_1]; exact nI_nle (by omega) (by omega))
          · refine G_iconst (pc := 78) (v := 1) dX12_corrects_78 rfl ?_
            refine G_goto (pc := 79) (tgt := 83) dX12_corrects_79 (by decide) ?_
            refine G_iret (pc := 83) dX12_corrects_83 ⟨_, rfl, rfl⟩ ⟨by decide, by decide⟩ ?_
            have h68 := gB_eq.mp h68
            have hch : gSum f p q x y 0 n * gSum f p q x y 1 n / gGG f p q n x y = 0 ∧ gSum f p q x y 0 n * gSum f p q x y 2 n / gGG f p q n x y = 0 := Classical.byContradiction (fun z => h68 (fun w => z (sub_eq w)))
            refine h1 x y (rd + 1) (by rw [hcor, if_pos hin, if_neg z1, if_pos hch]) _ (((hi.put (by decide)).put (by decide)).put (by decide)) ?_ ?_ ?_
            · rw [up2_row (by decide), up2_row (by decide), up2_self, hch.1, Int64.sub_zero]
            · rw [up2_row (by decide), up2_self, hch.2, Int64.sub_zero]
            · rw [up2_self, e8, nI_1]

set_option maxRecDepth 100000 in
set_option maxHeartbeats 4000000 in
theorem c_X12_corrects {Γ : gG} {T : gTy} {r : gR} {l : gLg} {i : gI} {Q : gQ} {m n mm : Nat} {x0 y0 : Int64} {f : Nat → Int32} {p q : Nat → Nat} (hM : lyM T r m) (hA : gN Γ ≤ m) (hV : mv (i (m + 1)) n f p q) (hm : i (m + 1) 4 = nI mm) (hm2 : mm < 2 ^ 30)
  (h0 : gCor f p q n mm 0 x0 y0 = none → ∀ i', frM m i i' → Q (some (.int 0)) T r l i')
  (h1 : ∀ x y rd, gCor f p q n mm 0 x0 y0 = some (x, y, rd) → ∀ i', frM m i i' → i' m 6 = x.toInt32 → i' m 7 = y.toInt32 → i' m 8 = nI rd → Q (some (.int 1)) T r l i') : gC Γ MX12_corrects [.ref m, .long x0, .long y0] T r l i Q := by
  have hM2 := hM
  obtain ⟨m0, m1, m2, m3, m4, m5, m6, m7, m8, m9, m10⟩ := hM
  refine gC_of rfl (Nat.le_of_ble_eq_true rfl) (L := [(0, .ref m), (1, .long x0), (3, .long y0)]) rfl ?_
  refine G_lload_n (pc := 0) 1 dX12_corrects_0 rfl ?_
  refine G_ldc2 (pc := 1) dX12_corrects_1 kcX12_68 ?_
  refine G_lif_lt (pc := 4) (tgt := 32) dX12_corrects_4 dX12_corrects_5 (by decide) (fun h4 => ?_) (fun h4 => ?_)
  · refine G_iconst (pc := 32) (v := 0) dX12_corrects_32 rfl ?_
    refine G_iret (pc := 33) dX12_corrects_33 ⟨_, rfl, rfl⟩ ⟨by decide, by decide⟩ ?_
    exact h0 (gCor_out (fun q => q.1.1 h4)) i frM.rfl'
  · refine G_lload_n (pc := 8) 1 dX12_corrects_8 rfl ?_
    refine G_ldc2 (pc := 9) dX12_corrects_9 kcX12_70 ?_
    refine G_lif_gt (pc := 12) (tgt := 32) dX12_corrects_12 dX12_corrects_13 (by decide) (fun h12 => ?_) (fun h12 => ?_)
    · refine G_iconst (pc := 32) (v := 0) dX12_corrects_32 rfl ?_
      refine G_iret (pc := 33) dX12_corrects_33 ⟨_, rfl, rfl⟩ ⟨by decide, by decide⟩ ?_
      exact h0 (gCor_out (fun q => q.1.2 h12)) i frM.rfl'
    · refine G_lload_n (pc := 16) 2 dX12_corrects_16 rfl ?_
      refine G_ldc2 (pc := 17) dX12_corrects_17 kcX12_68 ?_
      refine G_lif_lt (pc := 20) (tgt := 32) dX12_corrects_20 dX12_corrects_21 (by decide) (fun h20 => ?_) (fun h20 => ?_)
      · refine G_iconst (pc := 32) (v := 0) dX12_corrects_32 rfl ?_
        refine G_iret (pc := 33) dX12_corrects_33 ⟨_, rfl, rfl⟩ ⟨by decide, by decide⟩ ?_
        exact h0 (gCor_out (fun q => q.2.1 h20)) i frM.rfl'
      · refine G_lload_n (pc := 24) 2 dX12_corrects_24 rfl ?_
        refine G_ldc2 (pc := 25) dX12_corrects_25 kcX12_70 ?_
        refine G_lif_le (pc := 28) (tgt := 34) dX12_corrects_28 dX12_corrects_29 (by decide) (fun h28 => ?_) (fun h28 => ?_)
        · refine G_aload_n (pc := 34) 0 dX12_corrects_34 rfl ?_
          refine G_lload_n (pc := 35) 1 dX12_corrects_35 rfl ?_
          refine G_l2i (pc := 36) dX12_corrects_36 ?_
          refine G_putI (pc := 37) dX12_corrects_37 fX12_55 (by assumption) rfl rfl (by first | assumption | omega) ?_
          refine G_aload_n (pc := 40) 0 dX12_corrects_40 rfl ?_
          refine G_lload_n (pc := 41) 2 dX12_corrects_41 rfl ?_
          refine G_l2i (pc := 42) dX12_corrects_42 ?_
          refine G_putI (pc := 43) dX12_corrects_43 fX12_58 (by assumption) rfl rfl (by first | assumption | omega) ?_
          refine G_aload_n (pc := 46) 0 dX12_corrects_46 rfl ?_
          refine G_iconst (pc := 47) (v := 0) dX12_corrects_47 rfl ?_
          refine G_putI (pc := 48) dX12_corrects_48 fX12_65 (by assumption) rfl rfl (by first | assumption | omega) ?_
          refine lp_X12_corrects hM2 hA hV hm hm2 h0 h1 mm 0 x0 y0 _ (Nat.zero_add mm) (((frM.rfl'.put (by decide)).put (by decide)).put (by decide)) ⟨⟨h4, h12⟩, ⟨h20, Int64.not_lt.mpr h28⟩⟩ ?_ ?_ ?_ rfl
          · rw [up2_row (by decide), up2_row (by decide), up2_self]
          · rw [up2_row (by decide), up2_self]
          · rw [up2_self]; rfl
        · refine G_iconst (pc := 32) (v := 0) dX12_corrects_32 rfl ?_
          refine G_iret (pc := 33) dX12_corrects_33 ⟨_, rfl, rfl⟩ ⟨by decide, by decide⟩ ?_
          exact h0 (gCor_out (fun q => q.2.2 (Int64.not_le.mp h28))) i frM.rfl'
end
section
/-! Walk -/
def lyW (T : gTy) (r : gR) (a : Nat) : Prop := (T.2 a).1 = 9 ∧ r a 0 = some (a + 1) ∧ r a 1 = some (a + 2) ∧ r a 2 = some (a + 3) ∧ r a 3 = some (a + 4) ∧ T.2 (a + 1) = (13, 40) ∧ T.2 (a + 2) = (13, 40) ∧ T.2 (a + 3) = (13, 40) ∧ T.2 (a + 4) = (13, 40)
/-- outside lo .. hi - 1 nothing moved -/
def frR (lo hi : Nat) (i i' : gI) : Prop := ∀ b, b < lo ∨ hi ≤ b → i' b = i b
theorem frR.rf {lo hi : Nat} {i : gI} : frR lo hi i i := fun _ _ => rfl
theorem frR.tr {lo hi : Nat} {i j k : gI} (h : frR lo hi i j) (g : frR lo hi j k) : frR lo hi i k := fun b hb => (g b hb).trans (h b hb)
theorem frR.mono {lo hi lo' hi' : Nat} {i j : gI} (h : frR lo hi i j) (h1 : lo' ≤ lo) (h2 : hi ≤ hi') : frR lo' hi' i j := fun b hb => h b (by omega)
theorem frR.put {lo hi a j : Nat} {i i' : gI} {x : Int32} (h : frR lo hi i i') (h1 : lo ≤ a) (h2 : a < hi) : frR lo hi i (up2 i' a j x) := fun b hb => by rw [up2_ne (by omega)]; exact h b hb
/-- the walk at a is the one that the flat state s tells at w, with n places -/
def rpW (i : gI) (a : Nat) (s : Nat → Int32) (w n : Nat) : Prop := n ≤ 40 ∧ i a 4 = nI n ∧ (∀ j, j < 6 → i a (4 + j) = s (w + j)) ∧ (∀ p, p < n → ∀ c, c < 4 → i (a + 1 + c) p = s (w + 6 + 4 * p + c)) ∧ (s (w + 3) = 0 ∨ s (w + 3) = 1)
theorem rpW.kept {i i' : gI} {a w n : Nat} {s : Nat → Int32} (h : rpW i a s w n) (hf : ∀ b, a ≤ b → b < a + 5 → i' b = i b) : rpW i' a s w n := by
  obtain ⟨h1, h2, h3, h4, h5⟩ := h
  exact ⟨h1, by rw [hf a (by omega) (by omega)]; exact h2, fun j hj => by rw [hf a (by omega) (by omega)]; exact h3 j hj, fun p hp c hc => by rw [hf (a + 1 + c) (by omega) (by omega)]; exact h4 p hp c hc, h5⟩
theorem rpW.flat {i : gI} {a w n : Nat} {s s' : Nat → Int32} (h : rpW i a s w n) (hf : ∀ j, w ≤ j → j < w + 166 → s' j = s j) : rpW i a s' w n := by
  obtain ⟨h1, h2, h3, h4, h5⟩ := h
  exact ⟨h1, h2, fun j hj => by rw [hf _ (by omega) (by omega)]; exact h3 j hj, fun p hp c hc => by rw [hf _ (by omega) (by omega)]; exact h4 p hp c hc, by rw [hf _ (by omega) (by omega)]; exact h5⟩
def gCond (st n : Int32) : Int32 := if st = 0 then (if n < 40 then 0 else 2) else 1
def cntK (f : Nat → Int32) (k : Int32) : Nat → Nat
  | 0 => 0
  | p + 1 => cntK f k p + (if f p = k then 1 else 0)
theorem cntK_le (f : Nat → Int32) (k : Int32) : ∀ n, cntK f k n ≤ n
  | 0 => Nat.le_refl _
  | n + 1 => by have := cntK_le f k n; unfold cntK; split <;> omega
def mvR (x y : Nat → Int32) (p : Nat) : Int32 := (gRoot ((x (p + 1) - x p).toInt64 * (x (p + 1) - x p).toInt64 + (y (p + 1) - y p).toInt64 * (y (p + 1) - y p).toInt64)).toInt32
def lenL (x y : Nat → Int32) : Nat → Int32
  | 0 => 0
  | p + 1 => lenL x y p + mvR x y p
def sqT (x y : Nat → Int32) (u v : Int64) (p : Nat) : Int64 := ((x p).toInt64 - u) * ((x p).toInt64 - u) + ((y p).toInt64 - v) * ((y p).toInt64 - v)
def nrT (x y : Nat → Int32) (u v : Int64) : Nat → Nat
  | 0 => 0
  | p + 1 => if sqT x y u v (p + 1) < sqT x y u v (nrT x y u v p) then p + 1 else nrT x y u v p
theorem nrT_le (x y : Nat → Int32) (u v : Int64) : ∀ n, nrT x y u v n ≤ n
  | 0 => Nat.le_refl _
  | n + 1 => by have := nrT_le x y u v n; unfold nrT; split <;> omega

set_option maxRecDepth 100000 in
set_option maxHeartbeats 4000000 in
theorem c_X9_has {Γ : gG} {T : gTy} {r : gR} {l : gLg} {i : gI} {Q : gQ} {a : Nat} {x : Int32} (hk : (T.2 a).1 = 9) (hQ : Q (some (.int (gB (¬ x < 0 ∧ ¬ i a 4 ≤ x)))) T r l i) : gC Γ MX9_has [.ref a, .int x] T r l i Q := by
  refine gC_of rfl (Nat.le_of_ble_eq_true rfl) (L := [(0, .ref a), (1, .int x)]) rfl ?_
  refine G_iload_n (pc := 0) 1 dX9_has_0 rfl ?_
  refine G_if_lt (pc := 1) (tgt := 16) dX9_has_1 (by decide) (fun h1 => ?_) (fun h1 => ?_)
  · refine G_iconst (pc := 16) (v := 0) dX9_has_16 rfl ?_
    refine G_iret (pc := 17) dX9_has_17 ⟨_, rfl, rfl⟩ ⟨by decide, by decide⟩ ?_
    simpa [gB, h1] using hQ
  · refine G_iload_n (pc := 4) 1 dX9_has_4 rfl ?_
    refine G_aload_n (pc := 5) 0 dX9_has_5 rfl ?_
    refine G_getI (pc := 6) dX9_has_6 fX9_24 (by assumption) ?_
    refine G_icmp_ge (pc := 9) (tgt := 16) dX9_has_9 (by decide) (fun h9 => ?_) (fun h9 => ?_)
    · refine G_iconst (pc := 16) (v := 0) dX9_has_16 rfl ?_
      refine G_iret (pc := 17) dX9_has_17 ⟨_, rfl, rfl⟩ ⟨by decide, by decide⟩ ?_
      simpa [gB, h1, h9] using hQ
    · refine G_iconst (pc := 12) (v := 1) dX9_has_12 rfl ?_
      refine G_goto (pc := 13) (tgt := 17) dX9_has_13 (by decide) ?_
      refine G_iret (pc := 17) dX9_has_17 ⟨_, rfl, rfl⟩ ⟨by decide, by decide⟩ ?_
      simpa [gB, h1, h9] using hQ

set_option maxRecDepth 100000 in
set_option maxHeartbeats 4000000 in
theorem c_X9_condition {Γ : gG} {T : gTy} {r : gR} {l : gLg} {i : gI} {Q : gQ} {a : Nat} (hk : (T.2 a).1 = 9) (hQ : Q (some (.int (gCond (i a 7) (i a 4)))) T r l i) : gC Γ MX9_condition [.ref a] T r l i Q := by
  refine gC_of rfl (Nat.le_of_ble_eq_true rfl) (L := [(0, .ref a)]) rfl ?_
  refine G_aload_n (pc := 0) 0 dX9_condition_0 rfl ?_
  refine G_getI (pc := 1) dX9_condition_1 fX9_34 (by assumption) ?_
  refine G_if_eq (pc := 4) (tgt := 9) dX9_condition_4 (by decide) (fun h4 => ?_) (fun h4 => ?_)
  · refine G_aload_n (pc := 9) 0 dX9_condition_9 rfl ?_
    refine G_getI (pc := 10) dX9_condition_10 fX9_24 (by assumption) ?_
    refine G_bipush (pc := 13) (v := 40) dX9_condition_13 rfl ?_
    refine G_icmp_lt (pc := 15) (tgt := 22) dX9_condition_15 (by decide) (fun h15 => ?_) (fun h15 => ?_)
    · refine G_iconst (pc := 22) (v := 0) dX9_condition_22 rfl ?_
      refine G_iret (pc := 23) dX9_condition_23 ⟨_, rfl, rfl⟩ ⟨by decide, by decide⟩ ?_
      simpa [gCond, h4, h15] using hQ
    · refine G_iconst (pc := 18) (v := 2) dX9_condition_18 rfl ?_
      refine G_goto (pc := 19) (tgt := 23) dX9_condition_19 (by decide) ?_
      refine G_iret (pc := 23) dX9_condition_23 ⟨_, rfl, rfl⟩ ⟨by decide, by decide⟩ ?_
      simpa [gCond, h4, h15] using hQ
  · refine G_iconst (pc := 7) (v := 1) dX9_condition_7 rfl ?_
    refine G_iret (pc := 8) dX9_condition_8 ⟨_, rfl, rfl⟩ ⟨by decide, by decide⟩ ?_
    simpa [gCond, h4] using hQ

set_option maxRecDepth 100000 in
set_option maxHeartbeats 4000000 in
theorem c_X9_lastX {Γ : gG} {T : gTy} {r : gR} {l : gLg} {i : gI} {Q : gQ} {a n : Nat} (hL : lyW T r a) (h4 : i a 4 = nI (n + 1)) (hn : n + 1 ≤ 40) (hQ : Q (some (.int (i (a + 1) n))) T r l i) : gC Γ MX9_lastX [.ref a] T r l i Q := by
  obtain ⟨w0, w1, w2, w3, w4, w5, w6, w7, w8⟩ := hL
  refine gC_of rfl (Nat.le_of_ble_eq_true rfl) (L := [(0, .ref a)]) rfl ?_
  refine G_aload_n (pc := 0) 0 dX9_lastX_0 rfl ?_
  refine G_aload_n (pc := 1) 0 dX9_lastX_1 rfl ?_
  refine G_getI (pc := 2) dX9_lastX_2 fX9_24 (by assumption) ?_
  refine G_iconst (pc := 5) (v := 1) dX9_lastX_5 rfl ?_
  refine G_isub (pc := 6) dX9_lastX_6 ?_
  rw [h4, nI_pred]
  refine gV1 (pc := 7) (k' := 0) (n' := 0) dX9_lastX_7 lkX9_54 ⟨by decide, by decide⟩ (Nat.le_of_ble_eq_true rfl) rfl rfl ⟨by decide, by decide⟩ (by assumption) (c_X9_has (by assumption) ?_)
  dsimp only [gRt]
  refine G_if_eq (pc := 10) (tgt := 27) dX9_lastX_10 (by decide) (fun h10 => ?_) (fun h10 => ?_)
  · exact absurd (has_in h4 (Nat.lt_succ_self n) (by omega)) (gB_eq.mp h10)
  · refine G_aload_n (pc := 13) 0 dX9_lastX_13 rfl ?_
    refine G_getR (pc := 14) dX9_lastX_14 fX9_9 (by assumption) (by assumption) ?_
    refine G_aload_n (pc := 17) 0 dX9_lastX_17 rfl ?_
    refine G_getI (pc := 18) dX9_lastX_18 fX9_24 (by assumption) ?_
    refine G_iconst (pc := 21) (v := 1) dX9_lastX_21 rfl ?_
    refine G_isub (pc := 22) dX9_lastX_22 ?_
    rw [h4, nI_pred]
    refine G_ialdJ (pc := 23) dX9_lastX_23 (by assumption) rfl (by first | assumption | omega) (by decide) ?_
    refine G_goto (pc := 24) (tgt := 28) dX9_lastX_24 (by decide) ?_
    refine G_iret (pc := 28) dX9_lastX_28 ⟨_, rfl, rfl⟩ ⟨by decide, by decide⟩ ?_
    exact hQ

set_option maxRecDepth 100000 in
set_option maxHeartbeats 4000000 in
theorem c_X9_lastY {Γ : gG} {T : gTy} {r : gR} {l : gLg} {i : gI} {Q : gQ} {a n : Nat} (hL : lyW T r a) (h4 : i a 4 = nI (n + 1)) (hn : n + 1 ≤ 40) (hQ : Q (some (.int (i (a + 2) n))) T r l i) : gC Γ MX9_lastY [.ref a] T r l i Q := by
  obtain ⟨w0, w1, w2, w3, w4, w5, w6, w7, w8⟩ := hL
  refine gC_of rfl (Nat.le_of_ble_eq_true rfl) (L := [(0, .ref a)]) rfl ?_
  refine G_aload_n (pc := 0) 0 dX9_lastY_0 rfl ?_
  refine G_aload_n (pc := 1) 0 dX9_lastY_1 rfl ?_
  refine G_getI (pc := 2) dX9_lastY_2 fX9_24 (by assumption) ?_
  refine G_iconst (pc := 5) (v := 1) dX9_lastY_5 rfl ?_
  refine G_isub (pc := 6) dX9_lastY_6 ?_
  rw [h4, nI_pred]
  refine gV1 (pc := 7) (k' := 0) (n' := 0) dX9_lastY_7 lkX9_54 ⟨by decide, by decide⟩ (Nat.le_of_ble_eq_true rfl) rfl rfl ⟨by decide, by decide⟩ (by assumption) (c_X9_has (by assumption) ?_)
  dsimp only [gRt]
  refine G_if_eq (pc := 10) (tgt := 27) dX9_lastY_10 (by decide) (fun h10 => ?_) (fun h10 => ?_)
  · exact absurd (has_in h4 (Nat.lt_succ_self n) (by omega)) (gB_eq.mp h10)
  · refine G_aload_n (pc := 13) 0 dX9_lastY_13 rfl ?_
    refine G_getR (pc := 14) dX9_lastY_14 fX9_15 (by assumption) (by assumption) ?_
    refine G_aload_n (pc := 17) 0 dX9_lastY_17 rfl ?_
    refine G_getI (pc := 18) dX9_lastY_18 fX9_24 (by assumption) ?_
    refine G_iconst (pc := 21) (v := 1) dX9_lastY_21 rfl ?_
    refine G_isub (pc := 22) dX9_lastY_22 ?_
    rw [h4, nI_pred]
    refine G_ialdJ (pc := 23) dX9_lastY_23 (by assumption) rfl (by first | assumption | omega) (by decide) ?_
    refine G_goto (pc := 24) (tgt := 28) dX9_lastY_24 (by decide) ?_
    refine G_iret (pc := 28) dX9_lastY_28 ⟨_, rfl, rfl⟩ ⟨by decide, by decide⟩ ?_
    exact hQ

set_option maxRecDepth 100000 in
set_option maxHeartbeats 4000000 in
theorem c_X9_changeOfX {Γ : gG} {T : gTy} {r : gR} {l : gLg} {i : gI} {Q : gQ} {a n p : Nat} (hL : lyW T r a) (h4 : i a 4 = nI n) (hn : n ≤ 40) (hp : p + 1 < n) (hQ : Q (some (.int (i (a + 1) (p + 1) - i (a + 1) p))) T r l i) : gC Γ MX9_changeOfX [.ref a, .int (nI (p + 1))] T r l i Q := by
  obtain ⟨w0, w1, w2, w3, w4, w5, w6, w7, w8⟩ := hL
  refine gC_of rfl (Nat.le_of_ble_eq_true rfl) (L := [(0, .ref a), (1, .int (nI (p + 1)))]) rfl ?_
  refine G_aload_n (pc := 0) 0 dX9_changeOfX_0 rfl ?_
  refine G_iload_n (pc := 1) 1 dX9_changeOfX_1 rfl ?_
  refine gV1 (pc := 2) (k' := 0) (n' := 0) dX9_changeOfX_2 lkX9_54 ⟨by decide, by decide⟩ (Nat.le_of_ble_eq_true rfl) rfl rfl ⟨by decide, by decide⟩ (by assumption) (c_X9_has (by assumption) ?_)
  dsimp only [gRt]
  refine G_if_eq (pc := 5) (tgt := 36) dX9_changeOfX_5 (by decide) (fun h5 => ?_) (fun h5 => ?_)
  · exact absurd (has_in h4 hp (by omega)) (gB_eq.mp h5)
  · refine G_aload_n (pc := 8) 0 dX9_changeOfX_8 rfl ?_
    refine G_iload_n (pc := 9) 1 dX9_changeOfX_9 rfl ?_
    refine G_iconst (pc := 10) (v := 1) dX9_changeOfX_10 rfl ?_
    refine G_isub (pc := 11) dX9_changeOfX_11 ?_
    rw [nI_pred]
    refine gV1 (pc := 12) (k' := 0) (n' := 0) dX9_changeOfX_12 lkX9_54 ⟨by decide, by decide⟩ (Nat.le_of_ble_eq_true rfl) rfl rfl ⟨by decide, by decide⟩ (by assumption) (c_X9_has (by assumption) ?_)
    dsimp only [gRt]
    refine G_if_eq (pc := 15) (tgt := 36) dX9_changeOfX_15 (by decide) (fun h15 => ?_) (fun h15 => ?_)
    · exact absurd (has_in h4 (by omega) (by omega)) (gB_eq.mp h15)
    · refine G_aload_n (pc := 18) 0 dX9_changeOfX_18 rfl ?_
      refine G_getR (pc := 19) dX9_changeOfX_19 fX9_9 (by assumption) (by assumption) ?_
      refine G_iload_n (pc := 22) 1 dX9_changeOfX_22 rfl ?_
      refine G_ialdJ (pc := 23) dX9_changeOfX_23 (by assumption) rfl (by first | assumption | omega) (by decide) ?_
      refine G_aload_n (pc := 24) 0 dX9_changeOfX_24 rfl ?_
      refine G_getR (pc := 25) dX9_changeOfX_25 fX9_9 (by assumption) (by assumption) ?_
      refine G_iload_n (pc := 28) 1 dX9_changeOfX_28 rfl ?_
      refine G_iconst (pc := 29) (v := 1) dX9_changeOfX_29 rfl ?_
      refine G_isub (pc := 30) dX9_changeOfX_30 ?_
      rw [nI_pred]
      refine G_ialdJ (pc := 31) dX9_changeOfX_31 (by assumption) rfl (by first | assumption | omega) (by decide) ?_
      refine G_isub (pc := 32) dX9_changeOfX_32 ?_
      refine G_goto (pc := 33) (tgt := 37) dX9_changeOfX_33 (by decide) ?_
      refine G_iret (pc := 37) dX9_changeOfX_37 ⟨_, rfl, rfl⟩ ⟨by decide, by decide⟩ ?_
      exact hQ

set_option maxRecDepth 100000 in
set_option maxHeartbeats 4000000 in
theorem c_X9_changeOfY {Γ : gG} {T : gTy} {r : gR} {l : gLg} {i : gI} {Q : gQ} {a n p : Nat} (hL : lyW T r a) (h4 : i a 4 = nI n) (hn : n ≤ 40) (hp : p + 1 < n) (hQ : Q (some (.int (i (a + 2) (p + 1) - i (a + 2) p))) T r l i) : gC Γ MX9_changeOfY [.ref a, .int (nI (p + 1))] T r l i Q := by
  obtain ⟨w0, w1, w2, w3, w4, w5, w6, w7, w8⟩ := hL
  refine gC_of rfl (Nat.le_of_ble_eq_true rfl) (L := [(0, .ref a), (1, .int (nI (p + 1)))]) rfl ?_
  refine G_aload_n (pc := 0) 0 dX9_changeOfY_0 rfl ?_
  refine G_iload_n (pc := 1) 1 dX9_changeOfY_1 rfl ?_
  refine gV1 (pc := 2) (k' := 0) (n' := 0) dX9_changeOfY_2 lkX9_54 ⟨by decide, by decide⟩ (Nat.le_of_ble_eq_true rfl) rfl rfl ⟨by decide, by decide⟩ (by assumption) (c_X9_has (by assumption) ?_)
  dsimp only [gRt]
  refine G_if_eq (pc := 5) (tgt := 36) dX9_changeOfY_5 (by decide) (fun h5 => ?_) (fun h5 => ?_)
  · exact absurd (has_in h4 hp (by omega)) (gB_eq.mp h5)
  · refine G_aload_n (pc := 8) 0 dX9_changeOfY_8 rfl ?_
    refine G_iload_n (pc := 9) 1 dX9_changeOfY_9 rfl ?_
    refine G_iconst (pc := 10) (v := 1) dX9_changeOfY_10 rfl ?_
    refine G_isub (pc := 11) dX9_changeOfY_11 ?_
    rw [nI_pred]
    refine gV1 (pc := 12) (k' := 0) (n' := 0) dX9_changeOfY_12 lkX9_54 ⟨by decide, by decide⟩ (Nat.le_of_ble_eq_true rfl) rfl rfl ⟨by decide, by decide⟩ (by assumption) (c_X9_has (by assumption) ?_)
    dsimp only [gRt]
    refine G_if_eq (pc := 15) (tgt := 36) dX9_changeOfY_15 (by decide) (fun h15 => ?_) (fun h15 => ?_)
    · exact absurd (has_in h4 (by omega) (by omega)) (gB_eq.mp h15)
    · refine G_aload_n (pc := 18) 0 dX9_changeOfY_18 rfl ?_
      refine G_getR (pc := 19) dX9_changeOfY_19 fX9_15 (by assumption) (by assumption) ?_
      refine G_iload_n (pc := 22) 1 dX9_changeOfY_22 rfl ?_
      refine G_ialdJ (pc := 23) dX9_changeOfY_23 (by assumption) rfl (by first | assumption | omega) (by decide) ?_
      refine G_aload_n (pc := 24) 0 dX9_changeOfY_24 rfl ?_
      refine G_getR (pc := 25) dX9_changeOfY_25 fX9_15 (by assumption) (by assumption) ?_
      refine G_iload_n (pc := 28) 1 dX9_changeOfY_28 rfl ?_
      refine G_iconst (pc := 29) (v := 1) dX9_changeOfY_29 rfl ?_
      refine G_isub (pc := 30) dX9_changeOfY_30 ?_
      rw [nI_pred]
      refine G_ialdJ (pc := 31) dX9_changeOfY_31 (by assumption) rfl (by first | assumption | omega) (by decide) ?_
      refine G_isub (pc := 32) dX9_changeOfY_32 ?_
      refine G_goto (pc := 33) (tgt := 37) dX9_changeOfY_33 (by decide) ?_
      refine G_iret (pc := 37) dX9_changeOfY_37 ⟨_, rfl, rfl⟩ ⟨by decide, by decide⟩ ?_
      exact hQ

set_option maxRecDepth 100000 in
set_option maxHeartbeats 4000000 in
theorem lp_X9_placesOfKind {Γ : gG} {T : gTy} {r : gR} {l : gLg} {i : gI} {Q : gQ} {a n : Nat} {v : Int32} (hL : lyW T r a) (h4 : i a 4 = nI n) (hn : n ≤ 40) (hQ : Q (some (.int (nI (cntK (i (a + 4)) v n)))) T r l i) : ∀ d k, k + d = n → G Γ MX9_placesOfKind 0 0 4 [(0, .ref a), (1, .int v), (2, .int (nI (cntK (i (a + 4)) v k))), (3, .int (nI k))] [] T r l i Q := by
  obtain ⟨w0, w1, w2, w3, w4, w5, w6, w7, w8⟩ := hL
  intro d
  induction d with
  | zero =>
    intro k hk
    obtain rfl : k = n := by omega
    refine G_iload_n (pc := 4) 3 dX9_placesOfKind_4 rfl ?_
    refine G_aload_n (pc := 5) 0 dX9_placesOfKind_5 rfl ?_
    refine G_getI (pc := 6) dX9_placesOfKind_6 fX9_24 (by assumption) ?_
    refine G_icmp_ge (pc := 9) (tgt := 31) dX9_placesOfKind_9 (by decide) (fun h9 => ?_) (fun h9 => ?_)
    · refine G_iload_n (pc := 31) 2 dX9_placesOfKind_31 rfl ?_
      refine G_iret (pc := 32) dX9_placesOfKind_32 ⟨_, rfl, rfl⟩ ⟨by decide, by decide⟩ ?_
      exact hQ
    · exact absurd (by rw [h4]; exact Int32.le_refl _) h9
  | succ d ih =>
    intro k hk
    refine G_iload_n (pc := 4) 3 dX9_placesOfKind_4 rfl ?_
    refine G_aload_n (pc := 5) 0 dX9_placesOfKind_5 rfl ?_
    refine G_getI (pc := 6) dX9_placesOfKind_6 fX9_24 (by assumption) ?_
    refine G_icmp_ge (pc := 9) (tgt := 31) dX9_placesOfKind_9 (by decide) (fun h9 => ?_) (fun h9 => ?_)
    · exact absurd h9 (by rw [h4]; exact nI_ge (by omega) (by omega))
    · refine G_aload_n (pc := 12) 0 dX9_placesOfKind_12 rfl ?_
      refine G_getR (pc := 13) dX9_placesOfKind_13 fX9_21 (by assumption) (by assumption) ?_
      refine G_iload_n (pc := 16) 3 dX9_placesOfKind_16 rfl ?_
      refine G_ialdJ (pc := 17) dX9_placesOfKind_17 (by assumption) rfl (by first | assumption | omega) (by decide) ?_
      refine G_iload_n (pc := 18) 1 dX9_placesOfKind_18 rfl ?_
      refine G_icmp_ne (pc := 19) (tgt := 25) dX9_placesOfKind_19 (by decide) (fun h19 => ?_) (fun h19 => ?_)
      · refine G_inc3 (pc := 25) (v := 1) dX9_placesOfKind_25 rfl (by decide) rfl ?_
        refine G_goto (pc := 28) (tgt := 4) dX9_placesOfKind_28 (by decide) ?_
        rw [nI_1]
        have e : cntK (i (a + 4)) v (k + 1) = cntK (i (a + 4)) v k := by simp [cntK, h19]
        rw [← e]
        exact ih (k + 1) (by omega)
      · refine G_inc2 (pc := 22) (v := 1) dX9_placesOfKind_22 rfl (by decide) rfl ?_
        refine G_inc3 (pc := 25) (v := 1) dX9_placesOfKind_25 rfl (by decide) rfl ?_
        refine G_goto (pc := 28) (tgt := 4) dX9_placesOfKind_28 (by decide) ?_
        rw [nI_1, nI_1]
        have e : cntK (i (a + 4)) v (k + 1) = cntK (i (a + 4)) v k + 1 := by simp [cntK, h19]
        rw [← e]
        exact ih (k + 1) (by omega)

set_option maxRecDepth 100000 in
set_option maxHeartbeats 4000000 in
theorem c_X9_placesOfKind {Γ : gG} {T : gTy} {r : gR} {l : gLg} {i : gI} {Q : gQ} {a n : Nat} {v : Int32} (hL : lyW T r a) (h4 : i a 4 = nI n) (hn : n ≤ 40) (hQ : Q (some (.int (nI (cntK (i (a + 4)) v n)))) T r l i) : gC Γ MX9_placesOfKind [.ref a, .int v] T r l i Q := by
  refine gC_of rfl (Nat.le_of_ble_eq_true rfl) (L := [(0, .ref a), (1, .int v)]) rfl ?_
  refine G_iconst (pc := 0) (v := 0) dX9_placesOfKind_0 rfl ?_
  refine G_sn2 (pc := 1) (gSt_in dX9_placesOfKind_1 rfl (by decide)) rfl ?_
  refine G_iconst (pc := 2) (v := 0) dX9_placesOfKind_2 rfl ?_
  refine G_sn3 (pc := 3) (gSt_in dX9_placesOfKind_3 rfl (by decide)) rfl ?_
  exact lp_X9_placesOfKind hL h4 hn hQ n 0 (Nat.zero_add n)

set_option maxRecDepth 100000 in
set_option maxHeartbeats 4000000 in
theorem lp_X9_lengthInParts {Γ : gG} {T : gTy} {r : gR} {l : gLg} {i : gI} {Q : gQ} {a n : Nat} (hL : lyW T r a) (h4 : i a 4 = nI (n + 1)) (hn : n + 1 ≤ 40) (hQ : Q (some (.int (lenL (i (a + 1)) (i (a + 2)) n))) T r l i) : ∀ d k, k + d = n → G Γ MX9_lengthInParts 0 0 4 [(0, .ref a), (1, .int (lenL (i (a + 1)) (i (a + 2)) k)), (2, .int (nI (k + 1)))] [] T r l i Q := by
  have hL2 := hL
  obtain ⟨w0, w1, w2, w3, w4, w5, w6, w7, w8⟩ := hL
  intro d
  induction d with
  | zero =>
    intro k hk
    obtain rfl : k = n := by omega
    refine G_iload_n (pc := 4) 2 dX9_lengthInParts_4 rfl ?_
    refine G_aload_n (pc := 5) 0 dX9_lengthInParts_5 rfl ?_
    refine G_getI (pc := 6) dX9_lengthInParts_6 fX9_24 (by assumption) ?_
    refine G_icmp_ge (pc := 9) (tgt := 49) dX9_lengthInParts_9 (by decide) (fun h9 => ?_) (fun h9 => ?_)
    · refine G_iload_n (pc := 49) 1 dX9_lengthInParts_49 rfl ?_
      refine G_iret (pc := 50) dX9_lengthInParts_50 ⟨_, rfl, rfl⟩ ⟨by decide, by decide⟩ ?_
      exact hQ
    · exact absurd (by rw [h4]; exact Int32.le_refl _) h9
  | succ d ih =>
    intro k hk
    refine G_iload_n (pc := 4) 2 dX9_lengthInParts_4 rfl ?_
    refine G_aload_n (pc := 5) 0 dX9_lengthInParts_5 rfl ?_
    refine G_getI (pc := 6) dX9_lengthInParts_6 fX9_24 (by assumption) ?_
    refine G_icmp_ge (pc := 9) (tgt := 49) dX9_lengthInParts_9 (by decide) (fun h9 => ?_) (fun h9 => ?_)
    · exact absurd h9 (by rw [h4]; exact nI_ge (by omega) (by omega))
    · refine G_aload_n (pc := 12) 0 dX9_lengthInParts_12 rfl ?_
      refine G_iload_n (pc := 13) 2 dX9_lengthInParts_13 rfl ?_
      refine gV1 (pc := 14) (k' := 0) (n' := 0) dX9_lengthInParts_14 lkX9_58 ⟨by decide, by decide⟩ (Nat.le_of_ble_eq_true rfl) rfl rfl ⟨by decide, by decide⟩ (by assumption) (c_X9_changeOfX hL2 h4 hn (by omega) ?_)
      dsimp only [gRt]
      refine G_i2l (pc := 17) dX9_lengthInParts_17 ?_
      refine G_sn3 (pc := 18) (gSt_ln dX9_lengthInParts_18 rfl (by decide)) rfl ?_
      refine G_aload_n (pc := 19) 0 dX9_lengthInParts_19 rfl ?_
      refine G_iload_n (pc := 20) 2 dX9_lengthInParts_20 rfl ?_
      refine gV1 (pc := 21) (k' := 0) (n' := 0) dX9_lengthInParts_21 lkX9_62 ⟨by decide, by decide⟩ (Nat.le_of_ble_eq_true rfl) rfl rfl ⟨by decide, by decide⟩ (by assumption) (c_X9_changeOfY hL2 h4 hn (by omega) ?_)
      dsimp only [gRt]
      refine G_i2l (pc := 24) dX9_lengthInParts_24 ?_
      refine G_sn4 (pc := 25) (gSt_l dX9_lengthInParts_25 (by decide)) rfl ?_
      refine G_iload_n (pc := 27) 1 dX9_lengthInParts_27 rfl ?_
      refine G_lload_n (pc := 28) 3 dX9_lengthInParts_28 rfl ?_
      refine G_lload_n (pc := 29) 3 dX9_lengthInParts_29 rfl ?_
      refine G_lmul (pc := 30) dX9_lengthInParts_30 ?_
      refine G_lload (pc := 31) 4 dX9_lengthInParts_31 rfl ?_
      refine G_lload (pc := 33) 4 dX9_lengthInParts_33 rfl ?_
      refine G_lmul (pc := 35) dX9_lengthInParts_35 ?_
      refine G_ladd (pc := 36) dX9_lengthInParts_36 ?_
      refine gS1 (pc := 37) (k' := 0) (n' := 0) dX9_lengthInParts_37 lkX9_65 ⟨by decide, by decide⟩ (Nat.le_of_ble_eq_true rfl) rfl rfl ⟨by decide, by decide⟩ (c_X11_rootOf ?_)
      dsimp only [gRt]
      refine G_l2i (pc := 40) dX9_lengthInParts_40 ?_
      refine G_iadd (pc := 41) dX9_lengthInParts_41 ?_
      refine G_st1 (pc := 42) (gSt_in dX9_lengthInParts_42 rfl (by decide)) rfl ?_
      refine G_inc2 (pc := 43) (v := 1) dX9_lengthInParts_43 rfl (by decide) rfl ?_
      refine G_goto (pc := 46) (tgt := 4) dX9_lengthInParts_46 (by decide) ?_
      refine G_drop4 ?_
      refine G_drop3 ?_
      rw [nI_1]
      exact ih (k + 1) (by omega)

set_option maxRecDepth 100000 in
set_option maxHeartbeats 4000000 in
theorem c_X9_lengthInParts {Γ : gG} {T : gTy} {r : gR} {l : gLg} {i : gI} {Q : gQ} {a n : Nat} (hL : lyW T r a) (h4 : i a 4 = nI (n + 1)) (hn : n + 1 ≤ 40) (hQ : Q (some (.int (lenL (i (a + 1)) (i (a + 2)) n))) T r l i) : gC Γ MX9_lengthInParts [.ref a] T r l i Q := by
  refine gC_of rfl (Nat.le_of_ble_eq_true rfl) (L := [(0, .ref a)]) rfl ?_
  refine G_iconst (pc := 0) (v := 0) dX9_lengthInParts_0 rfl ?_
  refine G_sn1 (pc := 1) (gSt_in dX9_lengthInParts_1 rfl (by decide)) rfl ?_
  refine G_iconst (pc := 2) (v := 1) dX9_lengthInParts_2 rfl ?_
  refine G_sn2 (pc := 3) (gSt_in dX9_lengthInParts_3 rfl (by decide)) rfl ?_
  exact lp_X9_lengthInParts hL h4 hn hQ n 0 (Nat.zero_add n)

set_option maxRecDepth 100000 in
set_option maxHeartbeats 4000000 in
theorem c_X9_squaresTo {Γ : gG} {T : gTy} {r : gR} {l : gLg} {i : gI} {Q : gQ} {a n p : Nat} {u v : Int64} (hL : lyW T r a) (h4 : i a 4 = nI n) (hn : n ≤ 40) (hp : p < n) (hQ : Q (some (.long (sqT (i (a + 1)) (i (a + 2)) u v p))) T r l i) : gC Γ MX9_squaresTo [.ref a, .int (nI p), .long u, .long v] T r l i Q := by
  obtain ⟨w0, w1, w2, w3, w4, w5, w6, w7, w8⟩ := hL
  refine gC_of rfl (Nat.le_of_ble_eq_true rfl) (L := [(0, .ref a), (1, .int (nI p)), (2, .long u), (4, .long v)]) rfl ?_
  refine G_aload_n (pc := 0) 0 dX9_squaresTo_0 rfl ?_
  refine G_iload_n (pc := 1) 1 dX9_squaresTo_1 rfl ?_
  refine gV1 (pc := 2) (k' := 0) (n' := 0) dX9_squaresTo_2 lkX9_54 ⟨by decide, by decide⟩ (Nat.le_of_ble_eq_true rfl) rfl rfl ⟨by decide, by decide⟩ (by assumption) (c_X9_has (by assumption) ?_)
  dsimp only [gRt]
  refine G_if_ne (pc := 5) (tgt := 10) dX9_squaresTo_5 (by decide) (fun h5 => ?_) (fun h5 => ?_)
  · refine G_aload_n (pc := 10) 0 dX9_squaresTo_10 rfl ?_
    refine G_getR (pc := 11) dX9_squaresTo_11 fX9_9 (by assumption) (by assumption) ?_
    refine G_iload_n (pc := 14) 1 dX9_squaresTo_14 rfl ?_
    refine G_ialdJ (pc := 15) dX9_squaresTo_15 (by assumption) rfl (by first | assumption | omega) (by decide) ?_
    refine G_i2l (pc := 16) dX9_squaresTo_16 ?_
    refine G_lload_n (pc := 17) 2 dX9_squaresTo_17 rfl ?_
    refine G_lsub (pc := 18) dX9_squaresTo_18 ?_
    refine G_sn4 (pc := 19) (gSt_l dX9_squaresTo_19 (by decide)) rfl ?_
    refine G_aload_n (pc := 21) 0 dX9_squaresTo_21 rfl ?_
    refine G_getR (pc := 22) dX9_squaresTo_22 fX9_15 (by assumption) (by assumption) ?_
    refine G_iload_n (pc := 25) 1 dX9_squaresTo_25 rfl ?_
    refine G_ialdJ (pc := 26) dX9_squaresTo_26 (by assumption) rfl (by first | assumption | omega) (by decide) ?_
    refine G_i2l (pc := 27) dX9_squaresTo_27 ?_
    refine G_lload (pc := 28) 3 dX9_squaresTo_28 rfl ?_
    refine G_lsub (pc := 30) dX9_squaresTo_30 ?_
    refine G_sn5 (pc := 31) (gSt_l dX9_squaresTo_31 (by decide)) rfl ?_
    refine G_lload (pc := 33) 4 dX9_squaresTo_33 rfl ?_
    refine G_lload (pc := 35) 4 dX9_squaresTo_35 rfl ?_
    refine G_lmul (pc := 37) dX9_squaresTo_37 ?_
    refine G_lload (pc := 38) 5 dX9_squaresTo_38 rfl ?_
    refine G_lload (pc := 40) 5 dX9_squaresTo_40 rfl ?_
    refine G_lmul (pc := 42) dX9_squaresTo_42 ?_
    refine G_ladd (pc := 43) dX9_squaresTo_43 ?_
    refine G_lret (pc := 44) dX9_squaresTo_44 rfl ⟨by decide, by decide⟩ ?_
    exact hQ
  · exact absurd (has_in h4 hp (by omega)) (gB_eq.mp h5)

set_option maxRecDepth 100000 in
set_option maxHeartbeats 4000000 in
theorem lp_X9_nearestTo {Γ : gG} {T : gTy} {r : gR} {l : gLg} {i : gI} {Q : gQ} {a n : Nat} {u v : Int64} (hL : lyW T r a) (h4 : i a 4 = nI (n + 1)) (hn : n + 1 ≤ 40) (hQ : Q (some (.int (nI (nrT (i (a + 1)) (i (a + 2)) u v n)))) T r l i) : ∀ d k, k + d = n → G Γ MX9_nearestTo 0 0 6 [(0, .ref a), (1, .long u), (3, .long v), (5, .int (nI (nrT (i (a + 1)) (i (a + 2)) u v k))), (6, .int (nI (k + 1)))] [] T r l i Q := by
  have hL2 := hL
  obtain ⟨w0, w1, w2, w3, w4, w5, w6, w7, w8⟩ := hL
  intro d
  induction d with
  | zero =>
    intro k hk
    obtain rfl : k = n := by omega
    refine G_iload (pc := 6) 4 dX9_nearestTo_6 rfl ?_
    refine G_aload_n (pc := 8) 0 dX9_nearestTo_8 rfl ?_
    refine G_getI (pc := 9) dX9_nearestTo_9 fX9_24 (by assumption) ?_
    refine G_icmp_ge (pc := 12) (tgt := 45) dX9_nearestTo_12 (by decide) (fun h12 => ?_) (fun h12 => ?_)
    · refine G_iload (pc := 45) 3 dX9_nearestTo_45 rfl ?_
      refine G_iret (pc := 47) dX9_nearestTo_47 ⟨_, rfl, rfl⟩ ⟨by decide, by decide⟩ ?_
      exact hQ
    · exact absurd (by rw [h4]; exact Int32.le_refl _) h12
  | succ d ih =>
    intro k hk
    have hle := nrT_le (i (a + 1)) (i (a + 2)) u v k
    refine G_iload (pc := 6) 4 dX9_nearestTo_6 rfl ?_
    refine G_aload_n (pc := 8) 0 dX9_nearestTo_8 rfl ?_
    refine G_getI (pc := 9) dX9_nearestTo_9 fX9_24 (by assumption) ?_
    refine G_icmp_ge (pc := 12) (tgt := 45) dX9_nearestTo_12 (by decide) (fun h12 => ?_) (fun h12 => ?_)
    · exact absurd h12 (by rw [h4]; exact nI_ge (by omega) (by omega))
    · refine G_aload_n (pc := 15) 0 dX9_nearestTo_15 rfl ?_
      refine G_iload (pc := 16) 4 dX9_nearestTo_16 rfl ?_
      refine G_lload_n (pc := 18) 1 dX9_nearestTo_18 rfl ?_
      refine G_lload_n (pc := 19) 2 dX9_nearestTo_19 rfl ?_
      refine gV3 (pc := 20) (k' := 0) (n' := 0) dX9_nearestTo_20 lkX9_69 ⟨by decide, by decide⟩ (Nat.le_of_ble_eq_true rfl) rfl rfl ⟨by decide, by decide⟩ (by assumption) (c_X9_squaresTo hL2 h4 hn (by omega) ?_)
      dsimp only [gRt]
      refine G_aload_n (pc := 23) 0 dX9_nearestTo_23 rfl ?_
      refine G_iload (pc := 24) 3 dX9_nearestTo_24 rfl ?_
      refine G_lload_n (pc := 26) 1 dX9_nearestTo_26 rfl ?_
      refine G_lload_n (pc := 27) 2 dX9_nearestTo_27 rfl ?_
      refine gV3 (pc := 28) (k' := 0) (n' := 0) dX9_nearestTo_28 lkX9_69 ⟨by decide, by decide⟩ (Nat.le_of_ble_eq_true rfl) rfl rfl ⟨by decide, by decide⟩ (by assumption) (c_X9_squaresTo hL2 h4 hn (by omega) ?_)
      dsimp only [gRt]
      refine G_lif_ge (pc := 31) (tgt := 39) dX9_nearestTo_31 dX9_nearestTo_32 (by decide) (fun h31 => ?_) (fun h31 => ?_)
      · refine G_inc4 (pc := 39) (v := 1) dX9_nearestTo_39 rfl (by decide) rfl ?_
        refine G_goto (pc := 42) (tgt := 6) dX9_nearestTo_42 (by decide) ?_
        rw [nI_1]
        have e : nrT (i (a + 1)) (i (a + 2)) u v (k + 1) = nrT (i (a + 1)) (i (a + 2)) u v k := by rw [nrT, if_neg (Int64.not_lt.mpr h31)]
        rw [← e]
        exact ih (k + 1) (by omega)
      · refine G_iload (pc := 35) 4 dX9_nearestTo_35 rfl ?_
        refine G_st3 (pc := 37) (gSt_i dX9_nearestTo_37 (by decide)) rfl ?_
        refine G_inc4 (pc := 39) (v := 1) dX9_nearestTo_39 rfl (by decide) rfl ?_
        refine G_goto (pc := 42) (tgt := 6) dX9_nearestTo_42 (by decide) ?_
        rw [nI_1]
        have e : nrT (i (a + 1)) (i (a + 2)) u v (k + 1) = k + 1 := by rw [nrT, if_pos (Int64.not_le.mp h31)]
        rw [show nI (k + 1) = nI (nrT (i (a + 1)) (i (a + 2)) u v (k + 1)) by rw [e]]
        have ih2 := ih (k + 1) (by omega)
        rw [e] at ih2 ⊢
        exact ih2

set_option maxRecDepth 100000 in
set_option maxHeartbeats 4000000 in
theorem c_X9_nearestTo {Γ : gG} {T : gTy} {r : gR} {l : gLg} {i : gI} {Q : gQ} {a n : Nat} {u v : Int64} (hL : lyW T r a) (h4 : i a 4 = nI (n + 1)) (hn : n + 1 ≤ 40) (hQ : Q (some (.int (nI (nrT (i (a + 1)) (i (a + 2)) u v n)))) T r l i) : gC Γ MX9_nearestTo [.ref a, .long u, .long v] T r l i Q := by
  refine gC_of rfl (Nat.le_of_ble_eq_true rfl) (L := [(0, .ref a), (1, .long u), (3, .long v)]) rfl ?_
  refine G_iconst (pc := 0) (v := 0) dX9_nearestTo_0 rfl ?_
  refine G_sn3 (pc := 1) (gSt_i dX9_nearestTo_1 (by decide)) rfl ?_
  refine G_iconst (pc := 3) (v := 1) dX9_nearestTo_3 rfl ?_
  refine G_sn4 (pc := 4) (gSt_i dX9_nearestTo_4 (by decide)) rfl ?_
  exact lp_X9_nearestTo hL h4 hn hQ n 0 (Nat.zero_add n)

def stW (i : gI) (a : Nat) (s p m w : Int32) : gI := up2 (up2 (up2 (up2 (up2 (up2 i a 4 0) a 5 s) a 6 p) a 7 0) a 8 m) a 9 w
def apW (i : gI) (a n : Nat) (x y z k : Int32) : gI := up2 (up2 (up2 (up2 (up2 i (a + 1) n x) (a + 2) n y) (a + 3) n z) (a + 4) n k) a 4 (nI (n + 1))
set_option maxRecDepth 100000 in
set_option maxHeartbeats 4000000 in
theorem c_X9_start {Γ : gG} {T : gTy} {r : gR} {l : gLg} {i : gI} {Q : gQ} {a : Nat} {s p m w : Int32} (hk : (T.2 a).1 = 9) (hA : gN Γ ≤ a) (hQ : Q none T r l (stW i a s p m w))  : gC Γ MX9_start [.ref a, .int s, .int p, .int m, .int w] T r l i Q := by
  refine gC_of rfl (Nat.le_of_ble_eq_true rfl) (L := [(0, .ref a), (1, .int s), (2, .int p), (3, .int m), (4, .int w)]) rfl ?_
  refine G_aload_n (pc := 0) 0 dX9_start_0 rfl ?_
  refine G_iconst (pc := 1) (v := 0) dX9_start_1 rfl ?_
  refine G_putI (pc := 2) dX9_start_2 fX9_24 (by assumption) rfl rfl (by first | assumption | omega) ?_
  refine G_aload_n (pc := 5) 0 dX9_start_5 rfl ?_
  refine G_iload_n (pc := 6) 1 dX9_start_6 rfl ?_
  refine G_putI (pc := 7) dX9_start_7 fX9_28 (by assumption) rfl rfl (by first | assumption | omega) ?_
  refine G_aload_n (pc := 10) 0 dX9_start_10 rfl ?_
  refine G_iload_n (pc := 11) 2 dX9_start_11 rfl ?_
  refine G_putI (pc := 12) dX9_start_12 fX9_31 (by assumption) rfl rfl (by first | assumption | omega) ?_
  refine G_aload_n (pc := 15) 0 dX9_start_15 rfl ?_
  refine G_iconst (pc := 16) (v := 0) dX9_start_16 rfl ?_
  refine G_putI (pc := 17) dX9_start_17 fX9_34 (by assumption) rfl rfl (by first | assumption | omega) ?_
  refine G_aload_n (pc := 20) 0 dX9_start_20 rfl ?_
  refine G_iload_n (pc := 21) 3 dX9_start_21 rfl ?_
  refine G_putI (pc := 22) dX9_start_22 fX9_38 (by assumption) rfl rfl (by first | assumption | omega) ?_
  refine G_aload_n (pc := 25) 0 dX9_start_25 rfl ?_
  refine G_iload (pc := 26) 4 dX9_start_26 rfl ?_
  refine G_putI (pc := 28) dX9_start_28 fX9_41 (by assumption) rfl rfl (by first | assumption | omega) ?_
  refine G_vret (pc := 31) dX9_start_31 rfl ⟨by decide, by decide⟩ ?_
  exact hQ

set_option maxRecDepth 100000 in
set_option maxHeartbeats 4000000 in
theorem c_X9_addPlace {Γ : gG} {T : gTy} {r : gR} {l : gLg} {i : gI} {Q : gQ} {a c n : Nat} {k : Int32} (hL : lyW T r a) (hA : gN Γ ≤ a) (hc0 : (T.2 c).1 = 0) (hc : c < a ∨ a + 5 ≤ c) (h4 : i a 4 = nI n) (hn : n < 40) (hQ : Q none T r l (apW i a n (i c 1) (i c 2) (i c 3) k)) : gC Γ MX9_addPlace [.ref a, .ref c, .int k] T r l i Q := by
  obtain ⟨w0, w1, w2, w3, w4, w5, w6, w7, w8⟩ := hL
  refine gC_of rfl (Nat.le_of_ble_eq_true rfl) (L := [(0, .ref a), (1, .ref c), (2, .int k)]) rfl ?_
  refine G_aload_n (pc := 0) 0 dX9_addPlace_0 rfl ?_
  refine G_getI (pc := 1) dX9_addPlace_1 fX9_24 (by assumption) ?_
  refine G_bipush (pc := 4) (v := 40) dX9_addPlace_4 rfl ?_
  refine G_icmp_lt (pc := 6) (tgt := 10) dX9_addPlace_6 (by decide) (fun h6 => ?_) (fun h6 => ?_)
  · refine G_aload_n (pc := 10) 0 dX9_addPlace_10 rfl ?_
    refine G_getR (pc := 11) dX9_addPlace_11 fX9_9 (by assumption) (by assumption) ?_
    refine G_aload_n (pc := 14) 0 dX9_addPlace_14 rfl ?_
    refine G_getI (pc := 15) dX9_addPlace_15 fX9_24 (by assumption) ?_
    refine G_aload_n (pc := 18) 1 dX9_addPlace_18 rfl ?_
    refine G_getI (pc := 19) dX9_addPlace_19 fX9_44 (by assumption) ?_
    refine G_iastJ (pc := 22) (j := n) dX9_addPlace_22 (by assumption) h4 (by first | assumption | omega) (by decide) (by first | assumption | omega) ?_
    refine G_aload_n (pc := 23) 0 dX9_addPlace_23 rfl ?_
    refine G_getR (pc := 24) dX9_addPlace_24 fX9_15 (by assumption) (by assumption) ?_
    refine G_aload_n (pc := 27) 0 dX9_addPlace_27 rfl ?_
    refine G_getI (pc := 28) dX9_addPlace_28 fX9_24 (by assumption) ?_
    refine G_aload_n (pc := 31) 1 dX9_addPlace_31 rfl ?_
    simp (disch := omega) only [up2_ne, up2_row, up2_self]
    refine G_getI (pc := 32) dX9_addPlace_32 fX9_49 (by assumption) ?_
    simp (disch := omega) only [up2_ne, up2_row, up2_self]
    refine G_iastJ (pc := 35) (j := n) dX9_addPlace_35 (by assumption) h4 (by first | assumption | omega) (by decide) (by first | assumption | omega) ?_
    refine G_aload_n (pc := 36) 0 dX9_addPlace_36 rfl ?_
    refine G_getR (pc := 37) dX9_addPlace_37 fX9_18 (by assumption) (by assumption) ?_
    refine G_aload_n (pc := 40) 0 dX9_addPlace_40 rfl ?_
    refine G_getI (pc := 41) dX9_addPlace_41 fX9_24 (by assumption) ?_
    refine G_aload_n (pc := 44) 1 dX9_addPlace_44 rfl ?_
    simp (disch := omega) only [up2_ne, up2_row, up2_self]
    refine G_getI (pc := 45) dX9_addPlace_45 fX9_52 (by assumption) ?_
    simp (disch := omega) only [up2_ne, up2_row, up2_self]
    refine G_iastJ (pc := 48) (j := n) dX9_addPlace_48 (by assumption) h4 (by first | assumption | omega) (by decide) (by first | assumption | omega) ?_
    refine G_aload_n (pc := 49) 0 dX9_addPlace_49 rfl ?_
    refine G_getR (pc := 50) dX9_addPlace_50 fX9_21 (by assumption) (by assumption) ?_
    refine G_aload_n (pc := 53) 0 dX9_addPlace_53 rfl ?_
    refine G_getI (pc := 54) dX9_addPlace_54 fX9_24 (by assumption) ?_
    refine G_iload_n (pc := 57) 2 dX9_addPlace_57 rfl ?_
    simp (disch := omega) only [up2_ne, up2_row, up2_self]
    refine G_iastJ (pc := 58) (j := n) dX9_addPlace_58 (by assumption) h4 (by first | assumption | omega) (by decide) (by first | assumption | omega) ?_
    refine G_aload_n (pc := 59) 0 dX9_addPlace_59 rfl ?_
    refine G_dup (pc := 60) dX9_addPlace_60 rfl ?_
    refine G_getI (pc := 61) dX9_addPlace_61 fX9_24 (by assumption) ?_
    refine G_iconst (pc := 64) (v := 1) dX9_addPlace_64 rfl ?_
    simp (disch := omega) only [up2_ne, up2_row, up2_self]
    rw [h4]
    refine G_iadd (pc := 65) dX9_addPlace_65 ?_
    rw [nI_1]
    refine G_putI (pc := 66) dX9_addPlace_66 fX9_24 (by assumption) rfl rfl (by first | assumption | omega) ?_
    refine G_vret (pc := 69) dX9_addPlace_69 rfl ⟨by decide, by decide⟩ ?_
    exact hQ
  · exact absurd (by rw [h4]; exact nI_lt hn (by decide)) h6

/-- the copy so far: k places of b's rows lie in a's -/
def cpW (i i' : gI) (a b k : Nat) : Prop := frR a (a + 5) i i' ∧ (∀ j, j < 6 → i' a (4 + j) = i b (4 + j)) ∧ ∀ p, p < k → ∀ c, c < 4 → i' (a + 1 + c) p = i (b + 1 + c) p
theorem cpW.step {i i' : gI} {a b k : Nat} (h : cpW i i' a b k) : cpW i (up2 (up2 (up2 (up2 i' (a + 1) k (i (b + 1) k)) (a + 2) k (i (b + 2) k)) (a + 3) k (i (b + 3) k)) (a + 4) k (i (b + 4) k)) a b (k + 1) := by
  obtain ⟨h1, h2, h3⟩ := h
  refine ⟨(((h1.put (by omega) (by omega)).put (by omega) (by omega)).put (by omega) (by omega)).put (by omega) (by omega), fun j hj => ?_, fun p hp c hc => ?_⟩
  · simp (disch := omega) only [up2_ne]
    exact h2 j hj
  · rcases (show c = 0 ∨ c = 1 ∨ c = 2 ∨ c = 3 by omega) with rfl | rfl | rfl | rfl <;> (by_cases hpk : p = k)
    · subst hpk; simp (disch := omega) only [Nat.add_zero, up2_ne, up2_self]
    · have h9 := h3 p (by omega) 0 (by omega)
      simp (disch := omega) only [Nat.add_zero, up2_ne, up2_row] at h9 ⊢; exact h9
    · subst hpk; show up2 _ (a + 4) _ _ (a + 2) _ = i (b + 2) _; simp (disch := omega) only [up2_ne, up2_self]
    · have h9 := h3 p (by omega) 1 (by omega)
      show up2 _ (a + 4) _ _ (a + 2) _ = i (b + 2) _; simp (disch := omega) only [up2_ne, up2_row]; exact h9
    · subst hpk; show up2 _ (a + 4) _ _ (a + 3) _ = i (b + 3) _; simp (disch := omega) only [up2_ne, up2_self]
    · have h9 := h3 p (by omega) 2 (by omega)
      show up2 _ (a + 4) _ _ (a + 3) _ = i (b + 3) _; simp (disch := omega) only [up2_ne, up2_row]; exact h9
    · subst hpk; show up2 _ (a + 4) _ _ (a + 4) _ = i (b + 4) _; simp (disch := omega) only [up2_self]
    · have h9 := h3 p (by omega) 3 (by omega)
      show up2 _ (a + 4) _ _ (a + 4) _ = i (b + 4) _; simp (disch := omega) only [up2_ne, up2_row]; exact h9
theorem cpW.rp {i i' : gI} {a b w n : Nat} {s : Nat → Int32} (h : cpW i i' a b n) (hb : rpW i b s w n) : rpW i' a s w n := by
  obtain ⟨h1, h2, h3⟩ := h
  obtain ⟨g1, g2, g3, g4, g5⟩ := hb
  exact ⟨g1, (h2 0 (by omega)).trans g2, fun j hj => (h2 j hj).trans (g3 j hj), fun p hp c hc => (h3 p hp c hc).trans (g4 p hp c hc), g5⟩
set_option maxRecDepth 100000 in
set_option maxHeartbeats 4000000 in
theorem lp_X9_copyFrom {Γ : gG} {T : gTy} {r : gR} {l : gLg} {i : gI} {Q : gQ} {a b n : Nat} (hL : lyW T r a) (hB : lyW T r b) (hA : gN Γ ≤ a) (hab : a + 5 ≤ b ∨ b + 5 ≤ a) (h4 : i b 4 = nI n) (hn : n ≤ 40) (hQ : ∀ i', cpW i i' a b n → Q none T r l i') : ∀ d k i1, k + d = n → cpW i i1 a b k → G Γ MX9_copyFrom 0 0 38 [(0, .ref a), (1, .ref b), (2, .int (nI k))] [] T r l i1 Q := by
  obtain ⟨w0, w1, w2, w3, w4, w5, w6, w7, w8⟩ := hL
  obtain ⟨b0, b1, b2, b3, b4, b5, b6, b7, b8⟩ := hB
  intro d
  induction d with
  | zero =>
    intro k i1 hk hi
    have hkn : k = n := by omega
    rw [hkn] at hi ⊢
    have e4 : i1 a 4 = nI n := (hi.2.1 0 (by omega)).trans h4
    refine G_iload_n (pc := 38) 2 dX9_copyFrom_38 rfl ?_
    refine G_aload_n (pc := 39) 0 dX9_copyFrom_39 rfl ?_
    refine G_getI (pc := 40) dX9_copyFrom_40 fX9_24 (by assumption) ?_
    refine G_icmp_ge (pc := 43) (tgt := 100) dX9_copyFrom_43 (by decide) (fun h43 => ?_) (fun h43 => ?_)
    · refine G_vret (pc := 100) dX9_copyFrom_100 rfl ⟨by decide, by decide⟩ ?_
      exact hQ _ hi
    · exact absurd (by rw [e4]; exact Int32.le_refl _) h43
  | succ d ih =>
    intro k i1 hk hi
    have e4 : i1 a 4 = nI n := (hi.2.1 0 (by omega)).trans h4
    have r0 : i1 (b + 1) = i (b + 1) := hi.1 (b + 1) (by omega)
    have r1 : i1 (b + 2) = i (b + 2) := hi.1 (b + 2) (by omega)
    have r2 : i1 (b + 3) = i (b + 3) := hi.1 (b + 3) (by omega)
    have r3 : i1 (b + 4) = i (b + 4) := hi.1 (b + 4) (by omega)
    refine G_iload_n (pc := 38) 2 dX9_copyFrom_38 rfl ?_
    refine G_aload_n (pc := 39) 0 dX9_copyFrom_39 rfl ?_
    refine G_getI (pc := 40) dX9_copyFrom_40 fX9_24 (by assumption) ?_
    refine G_icmp_ge (pc := 43) (tgt := 100) dX9_copyFrom_43 (by decide) (fun h43 => ?_) (fun h43 => ?_)
    · exact absurd h43 (by rw [e4]; exact nI_ge (by omega) (by omega))
    · refine G_aload_n (pc := 46) 0 dX9_copyFrom_46 rfl ?_
      refine G_getR (pc := 47) dX9_copyFrom_47 fX9_9 (by assumption) (by assumption) ?_
      refine G_iload_n (pc := 50) 2 dX9_copyFrom_50 rfl ?_
      refine G_aload_n (pc := 51) 1 dX9_copyFrom_51 rfl ?_
      refine G_getR (pc := 52) dX9_copyFrom_52 fX9_9 (by assumption) (by assumption) ?_
      refine G_iload_n (pc := 55) 2 dX9_copyFrom_55 rfl ?_
      refine G_ialdJ (pc := 56) dX9_copyFrom_56 (by assumption) rfl (by first | assumption | omega) (by decide) ?_
      rw [r0]
      refine G_iastJ (pc := 57) dX9_copyFrom_57 (by assumption) rfl (by first | assumption | omega) (by decide) (by first | assumption | omega) ?_
      refine G_aload_n (pc := 58) 0 dX9_copyFrom_58 rfl ?_
      refine G_getR (pc := 59) dX9_copyFrom_59 fX9_15 (by assumption) (by assumption) ?_
      refine G_iload_n (pc := 62) 2 dX9_copyFrom_62 rfl ?_
      refine G_aload_n (pc := 63) 1 dX9_copyFrom_63 rfl ?_
      refine G_getR (pc := 64) dX9_copyFrom_64 fX9_15 (by assumption) (by assumption) ?_
      refine G_iload_n (pc := 67) 2 dX9_copyFrom_67 rfl ?_
      refine G_ialdJ (pc := 68) dX9_copyFrom_68 (by assumption) rfl (by first | assumption | omega) (by decide) ?_
      simp (disch := omega) only [up2_ne, up2_row, up2_self]
      rw [r1]
      refine G_iastJ (pc := 69) dX9_copyFrom_69 (by assumption) rfl (by first | assumption | omega) (by decide) (by first | assumption | omega) ?_
      refine G_aload_n (pc := 70) 0 dX9_copyFrom_70 rfl ?_
      refine G_getR (pc := 71) dX9_copyFrom_71 fX9_18 (by assumption) (by assumption) ?_
      refine G_iload_n (pc := 74) 2 dX9_copyFrom_74 rfl ?_
      refine G_aload_n (pc := 75) 1 dX9_copyFrom_75 rfl ?_
      refine G_getR (pc := 76) dX9_copyFrom_76 fX9_18 (by assumption) (by assumption) ?_
      refine G_iload_n (pc := 79) 2 dX9_copyFrom_79 rfl ?_
      refine G_ialdJ (pc := 80) dX9_copyFrom_80 (by assumption) rfl (by first | assumption | omega) (by decide) ?_
      simp (disch := omega) only [up2_ne, up2_row, up2_self]
      rw [r2]
      refine G_iastJ (pc := 81) dX9_copyFrom_81 (by assumption) rfl (by first | assumption | omega) (by decide) (by first | assumption | omega) ?_
      refine G_aload_n (pc := 82) 0 dX9_copyFrom_82 rfl ?_
      refine G_getR (pc := 83) dX9_copyFrom_83 fX9_21 (by assumption) (by assumption) ?_
      refine G_iload_n (pc := 86) 2 dX9_copyFrom_86 rfl ?_
      refine G_aload_n (pc := 87) 1 dX9_copyFrom_87 rfl ?_
      refine G_getR (pc := 88) dX9_copyFrom_88 fX9_21 (by assumption) (by assumption) ?_
      refine G_iload_n (pc := 91) 2 dX9_copyFrom_91 rfl ?_
      refine G_ialdJ (pc := 92) dX9_copyFrom_92 (by assumption) rfl (by first | assumption | omega) (by decide) ?_
      simp (disch := omega) only [up2_ne, up2_row, up2_self]
      rw [r3]
      refine G_iastJ (pc := 93) dX9_copyFrom_93 (by assumption) rfl (by first | assumption | omega) (by decide) (by first | assumption | omega) ?_
      refine G_inc2 (pc := 94) (v := 1) dX9_copyFrom_94 rfl (by decide) rfl ?_
      refine G_goto (pc := 97) (tgt := 38) dX9_copyFrom_97 (by decide) ?_
      rw [nI_1]
      exact ih (k + 1) _ (by omega) hi.step

theorem cpW.base {i : gI} {a b : Nat} (hab : a + 5 ≤ b ∨ b + 5 ≤ a) : cpW i (up2 (up2 (stW i a (i b 5) (i b 6) (i b 8) (i b 9)) a 7 (i b 7)) a 4 (i b 4)) a b 0 := by
  refine ⟨fun c hc => ?_, fun j hj => ?_, fun p hp => absurd hp (by omega)⟩
  · unfold stW; simp (disch := omega) only [up2_ne]
  · unfold stW
    rcases (show j = 0 ∨ j = 1 ∨ j = 2 ∨ j = 3 ∨ j = 4 ∨ j = 5 by omega) with rfl | rfl | rfl | rfl | rfl | rfl <;> simp (disch := omega) only [Nat.add_zero, Nat.reduceAdd, up2_ne, up2_row, up2_self]
set_option maxRecDepth 100000 in
set_option maxHeartbeats 4000000 in
theorem c_X9_copyFrom {Γ : gG} {T : gTy} {r : gR} {l : gLg} {i : gI} {Q : gQ} {a b n : Nat} (hL : lyW T r a) (hB : lyW T r b) (hA : gN Γ ≤ a) (hab : a + 5 ≤ b ∨ b + 5 ≤ a) (h4 : i b 4 = nI n) (hn : n ≤ 40) (h7 : i b 7 = 0 ∨ i b 7 = 1) (hQ : ∀ i', cpW i i' a b n → Q none T r l i') : gC Γ MX9_copyFrom [.ref a, .ref b] T r l i Q := by
  have hL2 := hL
  have hB2 := hB
  obtain ⟨w0, w1, w2, w3, w4, w5, w6, w7, w8⟩ := hL
  obtain ⟨b0, b1, b2, b3, b4, b5, b6, b7, b8⟩ := hB
  refine gC_of rfl (Nat.le_of_ble_eq_true rfl) (L := [(0, .ref a), (1, .ref b)]) rfl ?_
  refine G_aload_n (pc := 0) 0 dX9_copyFrom_0 rfl ?_
  refine G_aload_n (pc := 1) 1 dX9_copyFrom_1 rfl ?_
  refine G_getI (pc := 2) dX9_copyFrom_2 fX9_28 (by assumption) ?_
  refine G_aload_n (pc := 5) 1 dX9_copyFrom_5 rfl ?_
  refine G_getI (pc := 6) dX9_copyFrom_6 fX9_31 (by assumption) ?_
  refine G_aload_n (pc := 9) 1 dX9_copyFrom_9 rfl ?_
  refine G_getI (pc := 10) dX9_copyFrom_10 fX9_38 (by assumption) ?_
  refine G_aload_n (pc := 13) 1 dX9_copyFrom_13 rfl ?_
  refine G_getI (pc := 14) dX9_copyFrom_14 fX9_41 (by assumption) ?_
  refine gV4 (pc := 17) (k' := 0) (n' := 0) dX9_copyFrom_17 lkX9_73 ⟨by decide, by decide⟩ (Nat.le_of_ble_eq_true rfl) rfl rfl ⟨by decide, by decide⟩ (by assumption) (c_X9_start w0 hA ?_)
  dsimp only [gRt]
  refine G_aload_n (pc := 20) 0 dX9_copyFrom_20 rfl ?_
  refine G_aload_n (pc := 21) 1 dX9_copyFrom_21 rfl ?_
  refine G_getI (pc := 22) dX9_copyFrom_22 fX9_34 (by assumption) ?_
  have e7 : stW i a (i b 5) (i b 6) (i b 8) (i b 9) b = i b := by unfold stW; simp (disch := omega) only [up2_ne]
  rw [e7]
  refine G_putI (pc := 25) dX9_copyFrom_25 fX9_34 (by assumption) (by rcases h7 with h | h <;> rw [h] <;> rfl) (by rcases h7 with h | h <;> rw [h] <;> rfl) (by first | assumption | omega) ?_
  refine G_aload_n (pc := 28) 0 dX9_copyFrom_28 rfl ?_
  refine G_aload_n (pc := 29) 1 dX9_copyFrom_29 rfl ?_
  refine G_getI (pc := 30) dX9_copyFrom_30 fX9_24 (by assumption) ?_
  rw [up2_ne (by omega), e7]
  refine G_putI (pc := 33) dX9_copyFrom_33 fX9_24 (by assumption) rfl rfl (by first | assumption | omega) ?_
  refine G_iconst (pc := 36) (v := 0) dX9_copyFrom_36 rfl ?_
  refine G_sn2 (pc := 37) (gSt_in dX9_copyFrom_37 rfl (by decide)) rfl ?_
  exact lp_X9_copyFrom hL2 hB2 hA hab h4 hn hQ n 0 _ (Nat.zero_add n) (cpW.base hab)
end
section
/-! Terms' writes, Settings, Walks, State -/
def rpT (i : gI) (a : Nat) (s : Nat → Int32) (n : Nat) : Prop := n ≤ 6 ∧ i a 3 = nI n ∧ s 0 = nI n ∧ ∀ k, k < n → ∀ c, c < 3 → i (a + 1 + c) k = s (5 + 3 * k + c)
theorem rpT.kept {i i' : gI} {a n : Nat} {s : Nat → Int32} (h : rpT i a s n) (hf : ∀ b, a ≤ b → b < a + 4 → i' b = i b) : rpT i' a s n := by
  obtain ⟨h1, h2, h3, h4⟩ := h
  exact ⟨h1, by rw [hf a (by omega) (by omega)]; exact h2, h3, fun k hk c hc => by rw [hf (a + 1 + c) (by omega) (by omega)]; exact h4 k hk c hc⟩
theorem rpT.flat {i : gI} {a n : Nat} {s s' : Nat → Int32} (h : rpT i a s n) (h0 : s' 0 = s 0) (hf : ∀ j, 5 ≤ j → j < 23 → s' j = s j) : rpT i a s' n := by
  obtain ⟨h1, h2, h3, h4⟩ := h
  exact ⟨h1, h2, h0.trans h3, fun k hk c hc => by rw [hf _ (by omega) (by omega)]; exact h4 k hk c hc⟩
def rpS (i : gI) (a : Nat) (s : Nat → Int32) : Prop := ∀ c, c < 3 → i (a + 1) c = s (2 + c)
theorem rpS.kept {i i' : gI} {a : Nat} {s : Nat → Int32} (h : rpS i a s) (hf : i' (a + 1) = i (a + 1)) : rpS i' a s := fun c hc => by rw [hf]; exact h c hc
def lyWs (T : gTy) (r : gR) (a : Nat) (w : Nat → Nat) : Prop := (T.2 a).1 = 10 ∧ r a 0 = some (a + 1) ∧ r a 1 = some (a + 2) ∧ r a 2 = some (a + 3) ∧ T.2 (a + 1) = (16, 5) ∧ T.2 (a + 2) = (14, 5) ∧ T.2 (a + 3) = (13, 5) ∧ (∀ k, k < 5 → r (a + 1) k = some (w k) ∧ lyW T r (w k) ∧ a + 4 ≤ w k ∧ w k + 5 ≤ a + 29) ∧ ∀ k j, k < 5 → j < 5 → k ≠ j → w k + 5 ≤ w j ∨ w j + 5 ≤ w k
def rpWs (i : gI) (w : Nat → Nat) (s : Nat → Int32) (a m : Nat) : Prop := m ≤ 5 ∧ i a 3 = nI m ∧ s 1 = nI m ∧ ∀ k, k < m → ∃ n, rpW i (w k) s (23 + 166 * k) n
theorem rpWs.kept {T : gTy} {r : gR} {i i' : gI} {w : Nat → Nat} {s : Nat → Int32} {a m : Nat} (h : rpWs i w s a m) (hl : lyWs T r a w) (hf : ∀ b, a ≤ b → b < a + 29 → i' b = i b) : rpWs i' w s a m := by
  obtain ⟨h1, h2, h3, h4⟩ := h
  refine ⟨h1, by rw [hf a (by omega) (by omega)]; exact h2, h3, fun k hk => ?_⟩
  obtain ⟨n, hn⟩ := h4 k hk
  obtain ⟨-, -, g1, g2⟩ := hl.2.2.2.2.2.2.2.1 k (by omega)
  exact ⟨n, hn.kept (fun b hb1 hb2 => hf b (by omega) (by omega))⟩
def gSumI (f : Nat → Int32) : Nat → Int32
  | 0 => 0
  | k + 1 => gSumI f k + f k
theorem gSumI_c {f g : Nat → Int32} : ∀ n, (∀ k, k < n → f k = g k) → gSumI f n = gSumI g n
  | 0, _ => rfl
  | n + 1, h => by rw [gSumI, gSumI, gSumI_c n (fun k hk => h k (by omega)), h n (by omega)]

def adT (i : gI) (a n : Nat) (f x y : Int32) : gI := up2 (up2 (up2 (up2 i (a + 1) n f) (a + 2) n x) (a + 3) n y) a 3 (nI (n + 1))
theorem adT_fr {i : gI} {a n : Nat} {f x y : Int32} : frR a (a + 4) i (adT i a n f x y) := (((frR.rf.put (by omega) (by omega)).put (by omega) (by omega)).put (by omega) (by omega)).put (by omega) (by omega)
theorem adT_rp {i : gI} {a n : Nat} {f x y : Int32} {s s' : Nat → Int32} (h : rpT i a s n) (hn : n < 6) (h0 : s' 0 = nI (n + 1)) (hs : ∀ j, 5 ≤ j → j < 5 + 3 * n → s' j = s j) (e0 : s' (5 + 3 * n) = f) (e1 : s' (5 + 3 * n + 1) = x) (e2 : s' (5 + 3 * n + 2) = y) : rpT (adT i a n f x y) a s' (n + 1) := by
  obtain ⟨h1, h2, h3, h4⟩ := h
  refine ⟨by omega, by unfold adT; rw [up2_self], h0, fun k hk c hc => ?_⟩
  by_cases hkn : k = n
  · subst hkn
    rcases (show c = 0 ∨ c = 1 ∨ c = 2 by omega) with rfl | rfl | rfl
    · show adT i a k f x y (a + 1) k = s' (5 + 3 * k); unfold adT; simp (disch := omega) only [up2_ne, up2_self]; exact e0.symm
    · show adT i a k f x y (a + 2) k = s' (5 + 3 * k + 1); unfold adT; simp (disch := omega) only [up2_ne, up2_self]; exact e1.symm
    · show adT i a k f x y (a + 3) k = s' (5 + 3 * k + 2); unfold adT; simp (disch := omega) only [up2_ne, up2_self]; exact e2.symm
  · have h9 := h4 k (by omega) c hc
    rw [hs _ (by omega) (by omega), ← h9]
    rcases (show c = 0 ∨ c = 1 ∨ c = 2 by omega) with rfl | rfl | rfl
    · show adT i a n f x y (a + 1) k = i (a + 1) k; unfold adT; simp (disch := omega) only [up2_ne, up2_row]
    · show adT i a n f x y (a + 2) k = i (a + 2) k; unfold adT; simp (disch := omega) only [up2_ne, up2_row]
    · show adT i a n f x y (a + 3) k = i (a + 3) k; unfold adT; simp (disch := omega) only [up2_ne, up2_row]
set_option maxRecDepth 100000 in
set_option maxHeartbeats 4000000 in
theorem c_X7_add {Γ : gG} {T : gTy} {r : gR} {l : gLg} {i : gI} {Q : gQ} {a n : Nat} {f x y : Int32} (hL : lyT T r a) (hA : gN Γ ≤ a) (h3 : i a 3 = nI n) (hn : n < 6) (hQ : Q none T r l (adT i a n f x y)) : gC Γ MX7_add [.ref a, .int f, .int x, .int y] T r l i Q := by
  obtain ⟨t0, t1, t2, t3, t4, t5, t6⟩ := hL
  refine gC_of rfl (Nat.le_of_ble_eq_true rfl) (L := [(0, .ref a), (1, .int f), (2, .int x), (3, .int y)]) rfl ?_
  refine G_aload_n (pc := 0) 0 dX7_add_0 rfl ?_
  refine gV0 (pc := 1) (k' := 0) (n' := 0) dX7_add_1 lkX7_25 ⟨by decide, by decide⟩ (Nat.le_of_ble_eq_true rfl) rfl rfl ⟨by decide, by decide⟩ (by assumption) (c_X7_isFull (by assumption) ?_)
  dsimp only [gRt]
  refine G_if_eq (pc := 4) (tgt := 8) dX7_add_4 (by decide) (fun h4 => ?_) (fun h4 => ?_)
  · refine G_aload_n (pc := 8) 0 dX7_add_8 rfl ?_
    refine G_getR (pc := 9) dX7_add_9 fX7_9 (by assumption) (by assumption) ?_
    refine G_aload_n (pc := 12) 0 dX7_add_12 rfl ?_
    refine G_getI (pc := 13) dX7_add_13 fX7_21 (by assumption) ?_
    refine G_iload_n (pc := 16) 1 dX7_add_16 rfl ?_
    refine G_iastJ (pc := 17) (j := n) dX7_add_17 (by assumption) h3 (by first | assumption | omega) (by decide) (by first | assumption | omega) ?_
    refine G_aload_n (pc := 18) 0 dX7_add_18 rfl ?_
    refine G_getR (pc := 19) dX7_add_19 fX7_15 (by assumption) (by assumption) ?_
    refine G_aload_n (pc := 22) 0 dX7_add_22 rfl ?_
    refine G_getI (pc := 23) dX7_add_23 fX7_21 (by assumption) ?_
    refine G_iload_n (pc := 26) 2 dX7_add_26 rfl ?_
    simp (disch := omega) only [up2_ne, up2_row, up2_self]
    refine G_iastJ (pc := 27) (j := n) dX7_add_27 (by assumption) h3 (by first | assumption | omega) (by decide) (by first | assumption | omega) ?_
    refine G_aload_n (pc := 28) 0 dX7_add_28 rfl ?_
    refine G_getR (pc := 29) dX7_add_29 fX7_18 (by assumption) (by assumption) ?_
    refine G_aload_n (pc := 32) 0 dX7_add_32 rfl ?_
    refine G_getI (pc := 33) dX7_add_33 fX7_21 (by assumption) ?_
    refine G_iload_n (pc := 36) 3 dX7_add_36 rfl ?_
    simp (disch := omega) only [up2_ne, up2_row, up2_self]
    refine G_iastJ (pc := 37) (j := n) dX7_add_37 (by assumption) h3 (by first | assumption | omega) (by decide) (by first | assumption | omega) ?_
    refine G_aload_n (pc := 38) 0 dX7_add_38 rfl ?_
    refine G_dup (pc := 39) dX7_add_39 rfl ?_
    refine G_getI (pc := 40) dX7_add_40 fX7_21 (by assumption) ?_
    refine G_iconst (pc := 43) (v := 1) dX7_add_43 rfl ?_
    simp (disch := omega) only [up2_ne, up2_row, up2_self]
    rw [h3]
    refine G_iadd (pc := 44) dX7_add_44 ?_
    rw [nI_1]
    refine G_putI (pc := 45) dX7_add_45 fX7_21 (by assumption) rfl rfl (by first | assumption | omega) ?_
    refine G_vret (pc := 48) dX7_add_48 rfl ⟨by decide, by decide⟩ ?_
    exact hQ
  · exact absurd (show i a 3 < 6 by rw [h3]; exact nI_lt hn (by decide)) (gB_ne.mp h4)

set_option maxRecDepth 100000 in
set_option maxHeartbeats 4000000 in
theorem c_X7_clear {Γ : gG} {T : gTy} {r : gR} {l : gLg} {i : gI} {Q : gQ} {a : Nat} (hk : (T.2 a).1 = 7) (hA : gN Γ ≤ a) (hQ : Q none T r l (up2 i a 3 0)) : gC Γ MX7_clear [.ref a] T r l i Q := by
  refine gC_of rfl (Nat.le_of_ble_eq_true rfl) (L := [(0, .ref a)]) rfl ?_
  refine G_aload_n (pc := 0) 0 dX7_clear_0 rfl ?_
  refine G_iconst (pc := 1) (v := 0) dX7_clear_1 rfl ?_
  refine G_putI (pc := 2) dX7_clear_2 fX7_21 (by assumption) rfl rfl (by first | assumption | omega) ?_
  refine G_vret (pc := 5) dX7_clear_5 rfl ⟨by decide, by decide⟩ ?_
  exact hQ

set_option maxRecDepth 100000 in
set_option maxHeartbeats 4000000 in
theorem c_X10_clear {Γ : gG} {T : gTy} {r : gR} {l : gLg} {i : gI} {Q : gQ} {a : Nat} (hk : (T.2 a).1 = 10) (hA : gN Γ ≤ a) (hQ : Q none T r l (up2 i a 3 0)) : gC Γ MX10_clear [.ref a] T r l i Q := by
  refine gC_of rfl (Nat.le_of_ble_eq_true rfl) (L := [(0, .ref a)]) rfl ?_
  refine G_aload_n (pc := 0) 0 dX10_clear_0 rfl ?_
  refine G_iconst (pc := 1) (v := 0) dX10_clear_1 rfl ?_
  refine G_putI (pc := 2) dX10_clear_2 fX10_26 (by assumption) rfl rfl (by first | assumption | omega) ?_
  refine G_vret (pc := 5) dX10_clear_5 rfl ⟨by decide, by decide⟩ ?_
  exact hQ

set_option maxRecDepth 100000 in
set_option maxHeartbeats 4000000 in
theorem c_X10_isFull {Γ : gG} {T : gTy} {r : gR} {l : gLg} {i : gI} {Q : gQ} {a : Nat} (hk : (T.2 a).1 = 10) (hQ : Q (some (.int (gB (¬ i a 3 < 5)))) T r l i) : gC Γ MX10_isFull [.ref a] T r l i Q := by
  refine gC_of rfl (Nat.le_of_ble_eq_true rfl) (L := [(0, .ref a)]) rfl ?_
  refine G_aload_n (pc := 0) 0 dX10_isFull_0 rfl ?_
  refine G_getI (pc := 1) dX10_isFull_1 fX10_26 (by assumption) ?_
  refine G_iconst (pc := 4) (v := 5) dX10_isFull_4 rfl ?_
  refine G_icmp_lt (pc := 5) (tgt := 12) dX10_isFull_5 (by decide) (fun h5 => ?_) (fun h5 => ?_)
  · refine G_iconst (pc := 12) (v := 0) dX10_isFull_12 rfl ?_
    refine G_iret (pc := 13) dX10_isFull_13 ⟨_, rfl, rfl⟩ ⟨by decide, by decide⟩ ?_
    simpa [gB, h5] using hQ
  · refine G_iconst (pc := 8) (v := 1) dX10_isFull_8 rfl ?_
    refine G_goto (pc := 9) (tgt := 13) dX10_isFull_9 (by decide) ?_
    refine G_iret (pc := 13) dX10_isFull_13 ⟨_, rfl, rfl⟩ ⟨by decide, by decide⟩ ?_
    simpa [gB, h5] using hQ

/-- a row without its place k, up to m -/
def rmI (i i' : gI) (a n k m : Nat) : Prop := frR a (a + 4) i i' ∧ i' a 3 = nI n ∧ ∀ j, ∀ c, c < 3 → i' (a + 1 + c) j = if k ≤ j ∧ j < m then i (a + 1 + c) (j + 1) else i (a + 1 + c) j
theorem rmI.step {i i' : gI} {a n k m : Nat} (h : rmI i i' a n k m) (hk : k ≤ m) : rmI i (up2 (up2 (up2 i' (a + 1) m (i (a + 1) (m + 1))) (a + 2) m (i (a + 2) (m + 1))) (a + 3) m (i (a + 3) (m + 1))) a n k (m + 1) := by
  obtain ⟨h1, h2, h3⟩ := h
  refine ⟨((h1.put (by omega) (by omega)).put (by omega) (by omega)).put (by omega) (by omega), by simp (disch := omega) only [up2_ne]; exact h2, fun j c hc => ?_⟩
  have h9 := h3 j c hc
  by_cases hj : j = m
  · subst hj
    rw [if_pos ⟨hk, Nat.lt_succ_self _⟩]
    rcases (show c = 0 ∨ c = 1 ∨ c = 2 by omega) with rfl | rfl | rfl
    · show up2 _ (a + 3) _ _ (a + 1) _ = i (a + 1) _; simp (disch := omega) only [up2_ne, up2_self]
    · show up2 _ (a + 3) _ _ (a + 2) _ = i (a + 2) _; simp (disch := omega) only [up2_ne, up2_self]
    · show up2 _ (a + 3) _ _ (a + 3) _ = i (a + 3) _; simp (disch := omega) only [up2_self]
  · have hc2 : (k ≤ j ∧ j < m + 1) ↔ (k ≤ j ∧ j < m) := by omega
    simp only [hc2]
    rw [← h9]
    rcases (show c = 0 ∨ c = 1 ∨ c = 2 by omega) with rfl | rfl | rfl
    · show up2 _ (a + 3) _ _ (a + 1) _ = i' (a + 1) _; simp (disch := omega) only [up2_ne, up2_row]
    · show up2 _ (a + 3) _ _ (a + 2) _ = i' (a + 2) _; simp (disch := omega) only [up2_ne, up2_row]
    · show up2 _ (a + 3) _ _ (a + 3) _ = i' (a + 3) _; simp (disch := omega) only [up2_ne, up2_row]
set_option maxRecDepth 100000 in
set_option maxHeartbeats 4000000 in
theorem lp_X7_remove {Γ : gG} {T : gTy} {r : gR} {l : gLg} {i : gI} {Q : gQ} {a n k : Nat} (hL : lyT T r a) (hA : gN Γ ≤ a) (h3 : i a 3 = nI (n + 1)) (hn : n < 6) (hk : k ≤ n) (hQ : ∀ i', rmI i i' a n k n → Q (some (.int (i (a + 1) k))) T r l i') : ∀ d m i1, m + d = n → k ≤ m → rmI i i1 a n k m → G Γ MX7_remove 0 0 29 [(0, .ref a), (1, .int (nI k)), (2, .int (i (a + 1) k)), (3, .int (nI m))] [] T r l i1 Q := by
  have hL2 := hL
  obtain ⟨t0, t1, t2, t3, t4, t5, t6⟩ := hL
  intro d
  induction d with
  | zero =>
    intro m i1 hm hkm hi
    have hmn : m = n := by omega
    rw [hmn] at hi ⊢
    have e3 := hi.2.1
    refine G_iload_n (pc := 29) 3 dX7_remove_29 rfl ?_
    refine G_aload_n (pc := 30) 0 dX7_remove_30 rfl ?_
    refine G_getI (pc := 31) dX7_remove_31 fX7_21 (by assumption) ?_
    refine G_icmp_ge (pc := 34) (tgt := 85) dX7_remove_34 (by decide) (fun h34 => ?_) (fun h34 => ?_)
    · refine G_iload_n (pc := 85) 2 dX7_remove_85 rfl ?_
      refine G_iret (pc := 86) dX7_remove_86 ⟨_, rfl, rfl⟩ ⟨by decide, by decide⟩ ?_
      exact hQ _ hi
    · exact absurd (by rw [e3]; exact Int32.le_refl _) h34
  | succ d ih =>
    intro m i1 hm hkm hi
    have e3 := hi.2.1
    have q1 : i1 (a + 1) (m + 1) = i (a + 1) (m + 1) := by
      have h9 := hi.2.2 (m + 1) 0 (by omega)
      rw [if_neg (by omega)] at h9
      exact h9
    have q2 : i1 (a + 2) (m + 1) = i (a + 2) (m + 1) := by
      have h9 := hi.2.2 (m + 1) 1 (by omega)
      rw [if_neg (by omega)] at h9
      exact h9
    have q3 : i1 (a + 3) (m + 1) = i (a + 3) (m + 1) := by
      have h9 := hi.2.2 (m + 1) 2 (by omega)
      rw [if_neg (by omega)] at h9
      exact h9
    refine G_iload_n (pc := 29) 3 dX7_remove_29 rfl ?_
    refine G_aload_n (pc := 30) 0 dX7_remove_30 rfl ?_
    refine G_getI (pc := 31) dX7_remove_31 fX7_21 (by assumption) ?_
    refine G_icmp_ge (pc := 34) (tgt := 85) dX7_remove_34 (by decide) (fun h34 => ?_) (fun h34 => ?_)
    · exact absurd h34 (by rw [e3]; exact nI_ge (by omega) (by omega))
    · refine G_aload_n (pc := 37) 0 dX7_remove_37 rfl ?_
      refine G_getR (pc := 38) dX7_remove_38 fX7_9 (by assumption) (by assumption) ?_
      refine G_iload_n (pc := 41) 3 dX7_remove_41 rfl ?_
      refine G_aload_n (pc := 42) 0 dX7_remove_42 rfl ?_
      refine G_getR (pc := 43) dX7_remove_43 fX7_9 (by assumption) (by assumption) ?_
      refine G_iload_n (pc := 46) 3 dX7_remove_46 rfl ?_
      refine G_iconst (pc := 47) (v := 1) dX7_remove_47 rfl ?_
      refine G_iadd (pc := 48) dX7_remove_48 ?_
      rw [nI_1]
      refine G_ialdJ (pc := 49) dX7_remove_49 (by assumption) rfl (by first | assumption | omega) (by decide) ?_
      rw [q1]
      refine G_iastJ (pc := 50) dX7_remove_50 (by assumption) rfl (by first | assumption | omega) (by decide) (by first | assumption | omega) ?_
      refine G_aload_n (pc := 51) 0 dX7_remove_51 rfl ?_
      refine G_getR (pc := 52) dX7_remove_52 fX7_15 (by assumption) (by assumption) ?_
      refine G_iload_n (pc := 55) 3 dX7_remove_55 rfl ?_
      refine G_aload_n (pc := 56) 0 dX7_remove_56 rfl ?_
      refine G_getR (pc := 57) dX7_remove_57 fX7_15 (by assumption) (by assumption) ?_
      refine G_iload_n (pc := 60) 3 dX7_remove_60 rfl ?_
      refine G_iconst (pc := 61) (v := 1) dX7_remove_61 rfl ?_
      refine G_iadd (pc := 62) dX7_remove_62 ?_
      rw [nI_1]
      refine G_ialdJ (pc := 63) dX7_remove_63 (by assumption) rfl (by first | assumption | omega) (by decide) ?_
      simp (disch := omega) only [up2_ne, up2_row, up2_self]
      rw [q2]
      refine G_iastJ (pc := 64) dX7_remove_64 (by assumption) rfl (by first | assumption | omega) (by decide) (by first | assumption | omega) ?_
      refine G_aload_n (pc := 65) 0 dX7_remove_65 rfl ?_
      refine G_getR (pc := 66) dX7_remove_66 fX7_18 (by assumption) (by assumption) ?_
      refine G_iload_n (pc := 69) 3 dX7_remove_69 rfl ?_
      refine G_aload_n (pc := 70) 0 dX7_remove_70 rfl ?_
      refine G_getR (pc := 71) dX7_remove_71 fX7_18 (by assumption) (by assumption) ?_
      refine G_iload_n (pc := 74) 3 dX7_remove_74 rfl ?_
      refine G_iconst (pc := 75) (v := 1) dX7_remove_75 rfl ?_
      refine G_iadd (pc := 76) dX7_remove_76 ?_
      rw [nI_1]
      refine G_ialdJ (pc := 77) dX7_remove_77 (by assumption) rfl (by first | assumption | omega) (by decide) ?_
      simp (disch := omega) only [up2_ne, up2_row, up2_self]
      rw [q3]
      refine G_iastJ (pc := 78) dX7_remove_78 (by assumption) rfl (by first | assumption | omega) (by decide) (by first | assumption | omega) ?_
      refine G_inc3 (pc := 79) (v := 1) dX7_remove_79 rfl (by decide) rfl ?_
      refine G_goto (pc := 82) (tgt := 29) dX7_remove_82 (by decide) ?_
      rw [nI_1]
      exact ih (m + 1) _ (by omega) (by omega) (hi.step (by omega))

theorem rmI.base {i : gI} {a n k : Nat} : rmI i (up2 i a 3 (nI n)) a n k k := by
  refine ⟨frR.rf.put (by omega) (by omega), up2_self _ _ _ _, fun j c hc => ?_⟩
  rw [if_neg (by omega), up2_ne (by omega)]
set_option maxRecDepth 100000 in
set_option maxHeartbeats 4000000 in
theorem c_X7_remove {Γ : gG} {T : gTy} {r : gR} {l : gLg} {i : gI} {Q : gQ} {a n k : Nat} (hL : lyT T r a) (hA : gN Γ ≤ a) (h3 : i a 3 = nI (n + 1)) (hn : n < 6) (hk : k ≤ n) (hQ : ∀ i', rmI i i' a n k n → Q (some (.int (i (a + 1) k))) T r l i') : gC Γ MX7_remove [.ref a, .int (nI k)] T r l i Q := by
  have hL2 := hL
  obtain ⟨t0, t1, t2, t3, t4, t5, t6⟩ := hL
  refine gC_of rfl (Nat.le_of_ble_eq_true rfl) (L := [(0, .ref a), (1, .int (nI k))]) rfl ?_
  refine G_aload_n (pc := 0) 0 dX7_remove_0 rfl ?_
  refine G_iload_n (pc := 1) 1 dX7_remove_1 rfl ?_
  refine gV1 (pc := 2) (k' := 0) (n' := 0) dX7_remove_2 lkX7_29 ⟨by decide, by decide⟩ (Nat.le_of_ble_eq_true rfl) rfl rfl ⟨by decide, by decide⟩ (by assumption) (c_X7_has t0 ?_)
  dsimp only [gRt]
  refine G_if_ne (pc := 5) (tgt := 10) dX7_remove_5 (by decide) (fun h5 => ?_) (fun h5 => ?_)
  · refine G_aload_n (pc := 10) 0 dX7_remove_10 rfl ?_
    refine G_getR (pc := 11) dX7_remove_11 fX7_9 (by assumption) (by assumption) ?_
    refine G_iload_n (pc := 14) 1 dX7_remove_14 rfl ?_
    refine G_ialdJ (pc := 15) dX7_remove_15 (by assumption) rfl (by first | assumption | omega) (by decide) ?_
    refine G_sn2 (pc := 16) (gSt_in dX7_remove_16 rfl (by decide)) rfl ?_
    refine G_aload_n (pc := 17) 0 dX7_remove_17 rfl ?_
    refine G_dup (pc := 18) dX7_remove_18 rfl ?_
    refine G_getI (pc := 19) dX7_remove_19 fX7_21 (by assumption) ?_
    refine G_iconst (pc := 22) (v := 1) dX7_remove_22 rfl ?_
    rw [h3]
    refine G_isub (pc := 23) dX7_remove_23 ?_
    rw [nI_pred]
    refine G_putI (pc := 24) dX7_remove_24 fX7_21 (by assumption) rfl rfl (by first | assumption | omega) ?_
    refine G_iload_n (pc := 27) 1 dX7_remove_27 rfl ?_
    refine G_sn3 (pc := 28) (gSt_in dX7_remove_28 rfl (by decide)) rfl ?_
    exact lp_X7_remove hL2 hA h3 hn hk hQ (n - k) k _ (by omega) (Nat.le_refl k) rmI.base
  · exact absurd (has_in h3 (by omega) (by omega)) (gB_eq.mp h5)

def cpT (i i' : gI) (a b n k : Nat) : Prop := frR a (a + 4) i i' ∧ i' a 3 = nI n ∧ ∀ j, j < k → ∀ c, c < 3 → i' (a + 1 + c) j = i (b + 1 + c) j
theorem cpT.step {i i' : gI} {a b n k : Nat} (h : cpT i i' a b n k) : cpT i (up2 (up2 (up2 i' (a + 1) k (i (b + 1) k)) (a + 2) k (i (b + 2) k)) (a + 3) k (i (b + 3) k)) a b n (k + 1) := by
  obtain ⟨h1, h2, h3⟩ := h
  refine ⟨((h1.put (by omega) (by omega)).put (by omega) (by omega)).put (by omega) (by omega), by simp (disch := omega) only [up2_ne]; exact h2, fun j hj c hc => ?_⟩
  by_cases hjk : j = k
  · subst hjk
    rcases (show c = 0 ∨ c = 1 ∨ c = 2 by omega) with rfl | rfl | rfl
    · show up2 _ (a + 3) _ _ (a + 1) _ = i (b + 1) _; simp (disch := omega) only [up2_ne, up2_self]
    · show up2 _ (a + 3) _ _ (a + 2) _ = i (b + 2) _; simp (disch := omega) only [up2_ne, up2_self]
    · show up2 _ (a + 3) _ _ (a + 3) _ = i (b + 3) _; simp (disch := omega) only [up2_self]
  · rw [← h3 j (by omega) c hc]
    rcases (show c = 0 ∨ c = 1 ∨ c = 2 by omega) with rfl | rfl | rfl
    · show up2 _ (a + 3) _ _ (a + 1) _ = i' (a + 1) _; simp (disch := omega) only [up2_ne, up2_row]
    · show up2 _ (a + 3) _ _ (a + 2) _ = i' (a + 2) _; simp (disch := omega) only [up2_ne, up2_row]
    · show up2 _ (a + 3) _ _ (a + 3) _ = i' (a + 3) _; simp (disch := omega) only [up2_ne, up2_row]
theorem cpT.rp {i i' : gI} {a b n : Nat} {s : Nat → Int32} (h : cpT i i' a b n n) (hb : rpT i b s n) : rpT i' a s n := ⟨hb.1, h.2.1, hb.2.2.1, fun k hk c hc => (h.2.2 k hk c hc).trans (hb.2.2.2 k hk c hc)⟩
set_option maxRecDepth 100000 in
set_option maxHeartbeats 4000000 in
theorem lp_X7_copyFrom {Γ : gG} {T : gTy} {r : gR} {l : gLg} {i : gI} {Q : gQ} {a b n : Nat} (hL : lyT T r a) (hB : lyT T r b) (hA : gN Γ ≤ a) (hab : a + 4 ≤ b ∨ b + 4 ≤ a) (h3 : i b 3 = nI n) (hn : n ≤ 6) (hQ : ∀ i', cpT i i' a b n n → Q none T r l i') : ∀ d k i1, k + d = n → cpT i i1 a b n k → G Γ MX7_copyFrom 0 0 10 [(0, .ref a), (1, .ref b), (2, .int (nI k))] [] T r l i1 Q := by
  obtain ⟨t0, t1, t2, t3, t4, t5, t6⟩ := hL
  obtain ⟨b0, b1, b2, b3, b4, b5, b6⟩ := hB
  intro d
  induction d with
  | zero =>
    intro k i1 hk hi
    have hkn : k = n := by omega
    rw [hkn] at hi ⊢
    have e3 := hi.2.1
    refine G_iload_n (pc := 10) 2 dX7_copyFrom_10 rfl ?_
    refine G_aload_n (pc := 11) 0 dX7_copyFrom_11 rfl ?_
    refine G_getI (pc := 12) dX7_copyFrom_12 fX7_21 (by assumption) ?_
    refine G_icmp_ge (pc := 15) (tgt := 60) dX7_copyFrom_15 (by decide) (fun h15 => ?_) (fun h15 => ?_)
    · refine G_vret (pc := 60) dX7_copyFrom_60 rfl ⟨by decide, by decide⟩ ?_
      exact hQ _ hi
    · exact absurd (by rw [e3]; exact Int32.le_refl _) h15
  | succ d ih =>
    intro k i1 hk hi
    have e3 := hi.2.1
    have q1 : i1 (b + 1) = i (b + 1) := hi.1 (b + 1) (by omega)
    have q2 : i1 (b + 2) = i (b + 2) := hi.1 (b + 2) (by omega)
    have q3 : i1 (b + 3) = i (b + 3) := hi.1 (b + 3) (by omega)
    refine G_iload_n (pc := 10) 2 dX7_copyFrom_10 rfl ?_
    refine G_aload_n (pc := 11) 0 dX7_copyFrom_11 rfl ?_
    refine G_getI (pc := 12) dX7_copyFrom_12 fX7_21 (by assumption) ?_
    refine G_icmp_ge (pc := 15) (tgt := 60) dX7_copyFrom_15 (by decide) (fun h15 => ?_) (fun h15 => ?_)
    · exact absurd h15 (by rw [e3]; exact nI_ge (by omega) (by omega))
    · refine G_aload_n (pc := 18) 0 dX7_copyFrom_18 rfl ?_
      refine G_getR (pc := 19) dX7_copyFrom_19 fX7_9 (by assumption) (by assumption) ?_
      refine G_iload_n (pc := 22) 2 dX7_copyFrom_22 rfl ?_
      refine G_aload_n (pc := 23) 1 dX7_copyFrom_23 rfl ?_
      refine G_getR (pc := 24) dX7_copyFrom_24 fX7_9 (by assumption) (by assumption) ?_
      refine G_iload_n (pc := 27) 2 dX7_copyFrom_27 rfl ?_
      refine G_ialdJ (pc := 28) dX7_copyFrom_28 (by assumption) rfl (by first | assumption | omega) (by decide) ?_
      rw [q1]
      refine G_iastJ (pc := 29) dX7_copyFrom_29 (by assumption) rfl (by first | assumption | omega) (by decide) (by first | assumption | omega) ?_
      refine G_aload_n (pc := 30) 0 dX7_copyFrom_30 rfl ?_
      refine G_getR (pc := 31) dX7_copyFrom_31 fX7_15 (by assumption) (by assumption) ?_
      refine G_iload_n (pc := 34) 2 dX7_copyFrom_34 rfl ?_
      refine G_aload_n (pc := 35) 1 dX7_copyFrom_35 rfl ?_
      refine G_getR (pc := 36) dX7_copyFrom_36 fX7_15 (by assumption) (by assumption) ?_
      refine G_iload_n (pc := 39) 2 dX7_copyFrom_39 rfl ?_
      refine G_ialdJ (pc := 40) dX7_copyFrom_40 (by assumption) rfl (by first | assumption | omega) (by decide) ?_
      simp (disch := omega) only [up2_ne, up2_row, up2_self]
      rw [q2]
      refine G_iastJ (pc := 41) dX7_copyFrom_41 (by assumption) rfl (by first | assumption | omega) (by decide) (by first | assumption | omega) ?_
      refine G_aload_n (pc := 42) 0 dX7_copyFrom_42 rfl ?_
      refine G_getR (pc := 43) dX7_copyFrom_43 fX7_18 (by assumption) (by assumption) ?_
      refine G_iload_n (pc := 46) 2 dX7_copyFrom_46 rfl ?_
      refine G_aload_n (pc := 47) 1 dX7_copyFrom_47 rfl ?_
      refine G_getR (pc := 48) dX7_copyFrom_48 fX7_18 (by assumption) (by assumption) ?_
      refine G_iload_n (pc := 51) 2 dX7_copyFrom_51 rfl ?_
      refine G_ialdJ (pc := 52) dX7_copyFrom_52 (by assumption) rfl (by first | assumption | omega) (by decide) ?_
      simp (disch := omega) only [up2_ne, up2_row, up2_self]
      rw [q3]
      refine G_iastJ (pc := 53) dX7_copyFrom_53 (by assumption) rfl (by first | assumption | omega) (by decide) (by first | assumption | omega) ?_
      refine G_inc2 (pc := 54) (v := 1) dX7_copyFrom_54 rfl (by decide) rfl ?_
      refine G_goto (pc := 57) (tgt := 10) dX7_copyFrom_57 (by decide) ?_
      rw [nI_1]
      exact ih (k + 1) _ (by omega) hi.step

set_option maxRecDepth 100000 in
set_option maxHeartbeats 4000000 in
theorem c_X7_copyFrom {Γ : gG} {T : gTy} {r : gR} {l : gLg} {i : gI} {Q : gQ} {a b n : Nat} (hL : lyT T r a) (hB : lyT T r b) (hA : gN Γ ≤ a) (hab : a + 4 ≤ b ∨ b + 4 ≤ a) (h3 : i b 3 = nI n) (hn : n ≤ 6) (hQ : ∀ i', cpT i i' a b n n → Q none T r l i') : gC Γ MX7_copyFrom [.ref a, .ref b] T r l i Q := by
  have hL2 := hL
  have hB2 := hB
  obtain ⟨t0, t1, t2, t3, t4, t5, t6⟩ := hL
  obtain ⟨b0, b1, b2, b3, b4, b5, b6⟩ := hB
  refine gC_of rfl (Nat.le_of_ble_eq_true rfl) (L := [(0, .ref a), (1, .ref b)]) rfl ?_
  refine G_aload_n (pc := 0) 0 dX7_copyFrom_0 rfl ?_
  refine G_aload_n (pc := 1) 1 dX7_copyFrom_1 rfl ?_
  refine G_getI (pc := 2) dX7_copyFrom_2 fX7_21 (by assumption) ?_
  rw [h3]
  refine G_putI (pc := 5) dX7_copyFrom_5 fX7_21 (by assumption) rfl rfl (by first | assumption | omega) ?_
  refine G_iconst (pc := 8) (v := 0) dX7_copyFrom_8 rfl ?_
  refine G_sn2 (pc := 9) (gSt_in dX7_copyFrom_9 rfl (by decide)) rfl ?_
  exact lp_X7_copyFrom hL2 hB2 hA hab h3 hn hQ n 0 _ (Nat.zero_add n) ⟨frR.rf.put (by omega) (by omega), up2_self _ _ _ _, fun j hj => absurd hj (by omega)⟩

def cpS (i i' : gI) (a b k : Nat) : Prop := frR a (a + 2) i i' ∧ ∀ c, c < k → i' (a + 1) c = i (b + 1) c
theorem cpS.step {i i' : gI} {a b k : Nat} (h : cpS i i' a b k) : cpS i (up2 i' (a + 1) k (i (b + 1) k)) a b (k + 1) := by
  refine ⟨h.1.put (by omega) (by omega), fun c hc => ?_⟩
  by_cases hck : c = k
  · subst hck; rw [up2_self]
  · rw [up2_row hck]; exact h.2 c (by omega)
theorem cpS.rp {i i' : gI} {a b : Nat} {s : Nat → Int32} (h : cpS i i' a b 3) (hb : rpS i b s) : rpS i' a s := fun c hc => (h.2 c hc).trans (hb c hc)
set_option maxRecDepth 100000 in
set_option maxHeartbeats 4000000 in
theorem lp_X4_copyFrom {Γ : gG} {T : gTy} {r : gR} {l : gLg} {i : gI} {Q : gQ} {a b : Nat} (hL : lySe T r a) (hB : lySe T r b) (hA : gN Γ ≤ a) (hab : a + 2 ≤ b ∨ b + 2 ≤ a) (hQ : ∀ i', cpS i i' a b 3 → Q none T r l i') : ∀ d k i1, k + d = 3 → cpS i i1 a b k → G Γ MX4_copyFrom 0 0 2 [(0, .ref a), (1, .ref b), (2, .int (nI k))] [] T r l i1 Q := by
  obtain ⟨a0, a1, a2⟩ := hL
  obtain ⟨b0, b1, b2⟩ := hB
  intro d
  induction d with
  | zero =>
    intro k i1 hk hi
    have hkn : k = 3 := by omega
    rw [hkn] at hi ⊢
    refine G_iload_n (pc := 2) 2 dX4_copyFrom_2 rfl ?_
    refine G_aload_n (pc := 3) 0 dX4_copyFrom_3 rfl ?_
    refine G_getR (pc := 4) dX4_copyFrom_4 fX4_7 (by assumption) (by assumption) ?_
    refine G_alen (pc := 7) (z := 13) (v := 3) dX4_copyFrom_7 (by decide) (by assumption) rfl ?_
    refine G_icmp_ge (pc := 8) (tgt := 38) dX4_copyFrom_8 (by decide) (fun h8 => ?_) (fun h8 => ?_)
    · refine G_vret (pc := 38) dX4_copyFrom_38 rfl ⟨by decide, by decide⟩ ?_
      exact hQ _ hi
    · exact absurd (by decide) h8
  | succ d ih =>
    intro k i1 hk hi
    have q1 : i1 (b + 1) = i (b + 1) := hi.1 (b + 1) (by omega)
    refine G_iload_n (pc := 2) 2 dX4_copyFrom_2 rfl ?_
    refine G_aload_n (pc := 3) 0 dX4_copyFrom_3 rfl ?_
    refine G_getR (pc := 4) dX4_copyFrom_4 fX4_7 (by assumption) (by assumption) ?_
    refine G_alen (pc := 7) (z := 13) (v := 3) dX4_copyFrom_7 (by decide) (by assumption) rfl ?_
    refine G_icmp_ge (pc := 8) (tgt := 38) dX4_copyFrom_8 (by decide) (fun h8 => ?_) (fun h8 => ?_)
    · exact absurd h8 (nI_ge (b := 3) (by omega) (by decide))
    · refine G_iload_n (pc := 11) 2 dX4_copyFrom_11 rfl ?_
      refine G_aload_n (pc := 12) 1 dX4_copyFrom_12 rfl ?_
      refine G_getR (pc := 13) dX4_copyFrom_13 fX4_7 (by assumption) (by assumption) ?_
      refine G_alen (pc := 16) (z := 13) (v := 3) dX4_copyFrom_16 (by decide) (by assumption) rfl ?_
      refine G_icmp_ge (pc := 17) (tgt := 38) dX4_copyFrom_17 (by decide) (fun h17 => ?_) (fun h17 => ?_)
      · exact absurd h17 (nI_ge (b := 3) (by omega) (by decide))
      · refine G_aload_n (pc := 20) 0 dX4_copyFrom_20 rfl ?_
        refine G_getR (pc := 21) dX4_copyFrom_21 fX4_7 (by assumption) (by assumption) ?_
        refine G_iload_n (pc := 24) 2 dX4_copyFrom_24 rfl ?_
        refine G_aload_n (pc := 25) 1 dX4_copyFrom_25 rfl ?_
        refine G_getR (pc := 26) dX4_copyFrom_26 fX4_7 (by assumption) (by assumption) ?_
        refine G_iload_n (pc := 29) 2 dX4_copyFrom_29 rfl ?_
        refine G_ialdJ (pc := 30) dX4_copyFrom_30 (by assumption) rfl (by first | assumption | omega) (by decide) ?_
        rw [q1]
        refine G_iastJ (pc := 31) dX4_copyFrom_31 (by assumption) rfl (by first | assumption | omega) (by decide) (by first | assumption | omega) ?_
        refine G_inc2 (pc := 32) (v := 1) dX4_copyFrom_32 rfl (by decide) rfl ?_
        refine G_goto (pc := 35) (tgt := 2) dX4_copyFrom_35 (by decide) ?_
        rw [nI_1]
        exact ih (k + 1) _ (by omega) hi.step

set_option maxRecDepth 100000 in
set_option maxHeartbeats 4000000 in
theorem c_X4_copyFrom {Γ : gG} {T : gTy} {r : gR} {l : gLg} {i : gI} {Q : gQ} {a b : Nat} (hL : lySe T r a) (hB : lySe T r b) (hA : gN Γ ≤ a) (hab : a + 2 ≤ b ∨ b + 2 ≤ a) (hQ : ∀ i', cpS i i' a b 3 → Q none T r l i') : gC Γ MX4_copyFrom [.ref a, .ref b] T r l i Q := by
  refine gC_of rfl (Nat.le_of_ble_eq_true rfl) (L := [(0, .ref a), (1, .ref b)]) rfl ?_
  refine G_iconst (pc := 0) (v := 0) dX4_copyFrom_0 rfl ?_
  refine G_sn2 (pc := 1) (gSt_in dX4_copyFrom_1 rfl (by decide)) rfl ?_
  exact lp_X4_copyFrom hL hB hA hab hQ 3 0 _ (by decide) ⟨frR.rf, fun c hc => absurd hc (by omega)⟩
end
