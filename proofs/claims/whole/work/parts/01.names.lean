-- ===== PART A: goes FIRST, ahead of the names: the tables' words, and 'selects' of the private methods out of them =====
/-- a private method of a class that the tables say can be made, by its rows of tables_1 -/
def lw_okq (q : MethodName × Nat) : Prop := (q.1.cls ≠ "java/lang/invoke/MethodHandle" ∧ q.1.cls ≠ "java/lang/invoke/VarHandle") ∧ Cond.instantiable q.1.cls q.2 ∈ tables_1 ∧ Cond.privateMethod q.1 ∈ tables_1 ∧ Cond.instanceMethod q.1 ∈ tables_1
theorem lw_p0 : lw_okq (⟨"LeapBoard$Page", "fits", "(I)Z"⟩, 3) := ⟨⟨by decide +kernel, by decide +kernel⟩, List.mem_of_getElem? (i := 24) (by decide +kernel), List.mem_of_getElem? (i := 203) (by decide +kernel), List.mem_of_getElem? (i := 204) (by decide +kernel)⟩
theorem lw_p1 : lw_okq (⟨"LeapBoard$Page", "kindPlace", "(I)I"⟩, 3) := ⟨⟨by decide +kernel, by decide +kernel⟩, List.mem_of_getElem? (i := 24) (by decide +kernel), List.mem_of_getElem? (i := 207) (by decide +kernel), List.mem_of_getElem? (i := 208) (by decide +kernel)⟩
theorem lw_p2 : lw_okq (⟨"LeapBoard$Page", "isOpenTo", "(I)Z"⟩, 3) := ⟨⟨by decide +kernel, by decide +kernel⟩, List.mem_of_getElem? (i := 24) (by decide +kernel), List.mem_of_getElem? (i := 301) (by decide +kernel), List.mem_of_getElem? (i := 302) (by decide +kernel)⟩
theorem lw_p3 : lw_okq (⟨"LeapBoard$Ground", "fanFrom", "(II)I"⟩, 4) := ⟨⟨by decide +kernel, by decide +kernel⟩, List.mem_of_getElem? (i := 42) (by decide +kernel), List.mem_of_getElem? (i := 325) (by decide +kernel), List.mem_of_getElem? (i := 326) (by decide +kernel)⟩
theorem lw_p4 : lw_okq (⟨"LeapBoard", "watchedBy", "(LLeapBoard$Scene;I)I"⟩, 9) := ⟨⟨by decide +kernel, by decide +kernel⟩, List.mem_of_getElem? (i := 16) (by decide +kernel), List.mem_of_getElem? (i := 367) (by decide +kernel), List.mem_of_getElem? (i := 368) (by decide +kernel)⟩
theorem lw_p5 : lw_okq (⟨"LeapBoard", "goals", "(LLeapBoard$Scene;I)I"⟩, 9) := ⟨⟨by decide +kernel, by decide +kernel⟩, List.mem_of_getElem? (i := 16) (by decide +kernel), List.mem_of_getElem? (i := 378) (by decide +kernel), List.mem_of_getElem? (i := 379) (by decide +kernel)⟩
theorem lw_p6 : lw_okq (⟨"LeapBoard", "fanOfLeaper", "(I)[I"⟩, 9) := ⟨⟨by decide +kernel, by decide +kernel⟩, List.mem_of_getElem? (i := 16) (by decide +kernel), List.mem_of_getElem? (i := 403) (by decide +kernel), List.mem_of_getElem? (i := 404) (by decide +kernel)⟩
theorem lw_p7 : lw_okq (⟨"LeapBoard$Trips", "findFirsts", "([III)V"⟩, 6) := ⟨⟨by decide +kernel, by decide +kernel⟩, List.mem_of_getElem? (i := 103) (by decide +kernel), List.mem_of_getElem? (i := 411) (by decide +kernel), List.mem_of_getElem? (i := 412) (by decide +kernel)⟩
theorem lw_p8 : lw_okq (⟨"LeapBoard$Trips", "startsOf", "([II)I"⟩, 6) := ⟨⟨by decide +kernel, by decide +kernel⟩, List.mem_of_getElem? (i := 103) (by decide +kernel), List.mem_of_getElem? (i := 421) (by decide +kernel), List.mem_of_getElem? (i := 422) (by decide +kernel)⟩
theorem lw_p9 : lw_okq (⟨"LeapBoard$Trips", "mostBehind", "()I"⟩, 6) := ⟨⟨by decide +kernel, by decide +kernel⟩, List.mem_of_getElem? (i := 103) (by decide +kernel), List.mem_of_getElem? (i := 429) (by decide +kernel), List.mem_of_getElem? (i := 430) (by decide +kernel)⟩
theorem lw_p10 : lw_okq (⟨"LeapBoard", "watchers", "(I)I"⟩, 9) := ⟨⟨by decide +kernel, by decide +kernel⟩, List.mem_of_getElem? (i := 16) (by decide +kernel), List.mem_of_getElem? (i := 461) (by decide +kernel), List.mem_of_getElem? (i := 462) (by decide +kernel)⟩
theorem lw_p11 : lw_okq (⟨"LeapBoard$Trips", "spreadPairs", "([I[II)Z"⟩, 6) := ⟨⟨by decide +kernel, by decide +kernel⟩, List.mem_of_getElem? (i := 103) (by decide +kernel), List.mem_of_getElem? (i := 497) (by decide +kernel), List.mem_of_getElem? (i := 498) (by decide +kernel)⟩
theorem lw_p12 : lw_okq (⟨"LeapBoard$Trips", "addLeap", "([II)V"⟩, 6) := ⟨⟨by decide +kernel, by decide +kernel⟩, List.mem_of_getElem? (i := 103) (by decide +kernel), List.mem_of_getElem? (i := 550) (by decide +kernel), List.mem_of_getElem? (i := 551) (by decide +kernel)⟩
theorem lw_p13 : lw_okq (⟨"LeapBoard$Trips", "sumOver", "(I)I"⟩, 6) := ⟨⟨by decide +kernel, by decide +kernel⟩, List.mem_of_getElem? (i := 103) (by decide +kernel), List.mem_of_getElem? (i := 554) (by decide +kernel), List.mem_of_getElem? (i := 555) (by decide +kernel)⟩
theorem lw_p14 : lw_okq (⟨"LeapBoard", "walkTrial", "(II)V"⟩, 9) := ⟨⟨by decide +kernel, by decide +kernel⟩, List.mem_of_getElem? (i := 16) (by decide +kernel), List.mem_of_getElem? (i := 574) (by decide +kernel), List.mem_of_getElem? (i := 575) (by decide +kernel)⟩
theorem lw_p15 : lw_okq (⟨"LeapBoard", "watchedEmpty", "(LLeapBoard$Scene;)I"⟩, 9) := ⟨⟨by decide +kernel, by decide +kernel⟩, List.mem_of_getElem? (i := 16) (by decide +kernel), List.mem_of_getElem? (i := 590) (by decide +kernel), List.mem_of_getElem? (i := 591) (by decide +kernel)⟩
def lw_privs_1 : List (MethodName × Nat) := [(⟨"LeapBoard$Page", "fits", "(I)Z"⟩, 3), (⟨"LeapBoard$Page", "kindPlace", "(I)I"⟩, 3), (⟨"LeapBoard$Page", "isOpenTo", "(I)Z"⟩, 3), (⟨"LeapBoard$Ground", "fanFrom", "(II)I"⟩, 4), (⟨"LeapBoard", "watchedBy", "(LLeapBoard$Scene;I)I"⟩, 9), (⟨"LeapBoard", "goals", "(LLeapBoard$Scene;I)I"⟩, 9), (⟨"LeapBoard", "fanOfLeaper", "(I)[I"⟩, 9), (⟨"LeapBoard$Trips", "findFirsts", "([III)V"⟩, 6), (⟨"LeapBoard$Trips", "startsOf", "([II)I"⟩, 6), (⟨"LeapBoard$Trips", "mostBehind", "()I"⟩, 6), (⟨"LeapBoard", "watchers", "(I)I"⟩, 9), (⟨"LeapBoard$Trips", "spreadPairs", "([I[II)Z"⟩, 6), (⟨"LeapBoard$Trips", "addLeap", "([II)V"⟩, 6), (⟨"LeapBoard$Trips", "sumOver", "(I)I"⟩, 6), (⟨"LeapBoard", "walkTrial", "(II)V"⟩, 9), (⟨"LeapBoard", "watchedEmpty", "(LLeapBoard$Scene;)I"⟩, 9)]
theorem lw_r1 : ∀ q ∈ lw_privs_1, lw_okq q := List.forall_mem_cons.mpr ⟨lw_p0, List.forall_mem_cons.mpr ⟨lw_p1, List.forall_mem_cons.mpr ⟨lw_p2, List.forall_mem_cons.mpr ⟨lw_p3, List.forall_mem_cons.mpr ⟨lw_p4, List.forall_mem_cons.mpr ⟨lw_p5, List.forall_mem_cons.mpr ⟨lw_p6, List.forall_mem_cons.mpr ⟨lw_p7, List.forall_mem_cons.mpr ⟨lw_p8, List.forall_mem_cons.mpr ⟨lw_p9, List.forall_mem_cons.mpr ⟨lw_p10, List.forall_mem_cons.mpr ⟨lw_p11, List.forall_mem_cons.mpr ⟨lw_p12, List.forall_mem_cons.mpr ⟨lw_p13, List.forall_mem_cons.mpr ⟨lw_p14, List.forall_mem_cons.mpr ⟨lw_p15, fun _ h => absurd h List.not_mem_nil⟩⟩⟩⟩⟩⟩⟩⟩⟩⟩⟩⟩⟩⟩⟩⟩
theorem lw_p16 : lw_okq (⟨"LeapBoard", "mixLeapers", "(J)J"⟩, 9) := ⟨⟨by decide +kernel, by decide +kernel⟩, List.mem_of_getElem? (i := 16) (by decide +kernel), List.mem_of_getElem? (i := 611) (by decide +kernel), List.mem_of_getElem? (i := 612) (by decide +kernel)⟩
theorem lw_p17 : lw_okq (⟨"LeapBoard", "mixCells", "(J)J"⟩, 9) := ⟨⟨by decide +kernel, by decide +kernel⟩, List.mem_of_getElem? (i := 16) (by decide +kernel), List.mem_of_getElem? (i := 622) (by decide +kernel), List.mem_of_getElem? (i := 623) (by decide +kernel)⟩
theorem lw_p18 : lw_okq (⟨"LeapBoard", "mixKinds", "(J)J"⟩, 9) := ⟨⟨by decide +kernel, by decide +kernel⟩, List.mem_of_getElem? (i := 16) (by decide +kernel), List.mem_of_getElem? (i := 627) (by decide +kernel), List.mem_of_getElem? (i := 628) (by decide +kernel)⟩
theorem lw_p19 : lw_okq (⟨"LeapBoardModel", "read", "()I"⟩, 39) := ⟨⟨by decide +kernel, by decide +kernel⟩, List.mem_of_getElem? (i := 637) (by decide +kernel), List.mem_of_getElem? (i := 776) (by decide +kernel), List.mem_of_getElem? (i := 777) (by decide +kernel)⟩
theorem lw_p20 : lw_okq (⟨"LeapBoardModel", "at", "(I)I"⟩, 39) := ⟨⟨by decide +kernel, by decide +kernel⟩, List.mem_of_getElem? (i := 637) (by decide +kernel), List.mem_of_getElem? (i := 780) (by decide +kernel), List.mem_of_getElem? (i := 781) (by decide +kernel)⟩
theorem lw_p21 : lw_okq (⟨"LeapBoardModel", "readCells", "(I)I"⟩, 39) := ⟨⟨by decide +kernel, by decide +kernel⟩, List.mem_of_getElem? (i := 637) (by decide +kernel), List.mem_of_getElem? (i := 784) (by decide +kernel), List.mem_of_getElem? (i := 785) (by decide +kernel)⟩
theorem lw_p22 : lw_okq (⟨"LeapBoardModel", "readLeapers", "(I)I"⟩, 39) := ⟨⟨by decide +kernel, by decide +kernel⟩, List.mem_of_getElem? (i := 637) (by decide +kernel), List.mem_of_getElem? (i := 788) (by decide +kernel), List.mem_of_getElem? (i := 789) (by decide +kernel)⟩
theorem lw_p23 : lw_okq (⟨"LeapBoardModel", "cells", "()I"⟩, 39) := ⟨⟨by decide +kernel, by decide +kernel⟩, List.mem_of_getElem? (i := 637) (by decide +kernel), List.mem_of_getElem? (i := 802) (by decide +kernel), List.mem_of_getElem? (i := 803) (by decide +kernel)⟩
theorem lw_p24 : lw_okq (⟨"LeapBoardModel", "isLeaper", "(I)Z"⟩, 39) := ⟨⟨by decide +kernel, by decide +kernel⟩, List.mem_of_getElem? (i := 637) (by decide +kernel), List.mem_of_getElem? (i := 810) (by decide +kernel), List.mem_of_getElem? (i := 811) (by decide +kernel)⟩
theorem lw_p25 : lw_okq (⟨"LeapBoardModel", "leaperNow", "(II)I"⟩, 39) := ⟨⟨by decide +kernel, by decide +kernel⟩, List.mem_of_getElem? (i := 637) (by decide +kernel), List.mem_of_getElem? (i := 814) (by decide +kernel), List.mem_of_getElem? (i := 815) (by decide +kernel)⟩
theorem lw_p26 : lw_okq (⟨"LeapBoardModel", "watched", "(I)I"⟩, 39) := ⟨⟨by decide +kernel, by decide +kernel⟩, List.mem_of_getElem? (i := 637) (by decide +kernel), List.mem_of_getElem? (i := 818) (by decide +kernel), List.mem_of_getElem? (i := 819) (by decide +kernel)⟩
theorem lw_p27 : lw_okq (⟨"LeapBoardModel", "around", "(II)I"⟩, 39) := ⟨⟨by decide +kernel, by decide +kernel⟩, List.mem_of_getElem? (i := 637) (by decide +kernel), List.mem_of_getElem? (i := 822) (by decide +kernel), List.mem_of_getElem? (i := 823) (by decide +kernel)⟩
theorem lw_p28 : lw_okq (⟨"LeapBoardModel", "canGo", "(I)I"⟩, 39) := ⟨⟨by decide +kernel, by decide +kernel⟩, List.mem_of_getElem? (i := 637) (by decide +kernel), List.mem_of_getElem? (i := 835) (by decide +kernel), List.mem_of_getElem? (i := 836) (by decide +kernel)⟩
theorem lw_p29 : lw_okq (⟨"LeapBoardModel", "standing", "()I"⟩, 39) := ⟨⟨by decide +kernel, by decide +kernel⟩, List.mem_of_getElem? (i := 637) (by decide +kernel), List.mem_of_getElem? (i := 839) (by decide +kernel), List.mem_of_getElem? (i := 840) (by decide +kernel)⟩
theorem lw_p30 : lw_okq (⟨"LeapBoardModel", "sortsOf", "(I)I"⟩, 39) := ⟨⟨by decide +kernel, by decide +kernel⟩, List.mem_of_getElem? (i := 637) (by decide +kernel), List.mem_of_getElem? (i := 843) (by decide +kernel), List.mem_of_getElem? (i := 844) (by decide +kernel)⟩
theorem lw_p31 : lw_okq (⟨"LeapBoardModel", "askOf", "(I)I"⟩, 39) := ⟨⟨by decide +kernel, by decide +kernel⟩, List.mem_of_getElem? (i := 637) (by decide +kernel), List.mem_of_getElem? (i := 847) (by decide +kernel), List.mem_of_getElem? (i := 848) (by decide +kernel)⟩
def lw_privs_2 : List (MethodName × Nat) := [(⟨"LeapBoard", "mixLeapers", "(J)J"⟩, 9), (⟨"LeapBoard", "mixCells", "(J)J"⟩, 9), (⟨"LeapBoard", "mixKinds", "(J)J"⟩, 9), (⟨"LeapBoardModel", "read", "()I"⟩, 39), (⟨"LeapBoardModel", "at", "(I)I"⟩, 39), (⟨"LeapBoardModel", "readCells", "(I)I"⟩, 39), (⟨"LeapBoardModel", "readLeapers", "(I)I"⟩, 39), (⟨"LeapBoardModel", "cells", "()I"⟩, 39), (⟨"LeapBoardModel", "isLeaper", "(I)Z"⟩, 39), (⟨"LeapBoardModel", "leaperNow", "(II)I"⟩, 39), (⟨"LeapBoardModel", "watched", "(I)I"⟩, 39), (⟨"LeapBoardModel", "around", "(II)I"⟩, 39), (⟨"LeapBoardModel", "canGo", "(I)I"⟩, 39), (⟨"LeapBoardModel", "standing", "()I"⟩, 39), (⟨"LeapBoardModel", "sortsOf", "(I)I"⟩, 39), (⟨"LeapBoardModel", "askOf", "(I)I"⟩, 39)]
theorem lw_r2 : ∀ q ∈ lw_privs_2, lw_okq q := List.forall_mem_cons.mpr ⟨lw_p16, List.forall_mem_cons.mpr ⟨lw_p17, List.forall_mem_cons.mpr ⟨lw_p18, List.forall_mem_cons.mpr ⟨lw_p19, List.forall_mem_cons.mpr ⟨lw_p20, List.forall_mem_cons.mpr ⟨lw_p21, List.forall_mem_cons.mpr ⟨lw_p22, List.forall_mem_cons.mpr ⟨lw_p23, List.forall_mem_cons.mpr ⟨lw_p24, List.forall_mem_cons.mpr ⟨lw_p25, List.forall_mem_cons.mpr ⟨lw_p26, List.forall_mem_cons.mpr ⟨lw_p27, List.forall_mem_cons.mpr ⟨lw_p28, List.forall_mem_cons.mpr ⟨lw_p29, List.forall_mem_cons.mpr ⟨lw_p30, List.forall_mem_cons.mpr ⟨lw_p31, fun _ h => absurd h List.not_mem_nil⟩⟩⟩⟩⟩⟩⟩⟩⟩⟩⟩⟩⟩⟩⟩⟩
theorem lw_p32 : lw_okq (⟨"LeapBoardModel", "wayOf", "(II)I"⟩, 39) := ⟨⟨by decide +kernel, by decide +kernel⟩, List.mem_of_getElem? (i := 637) (by decide +kernel), List.mem_of_getElem? (i := 855) (by decide +kernel), List.mem_of_getElem? (i := 856) (by decide +kernel)⟩
theorem lw_p33 : lw_okq (⟨"LeapBoardModel", "longestBy", "(II)I"⟩, 39) := ⟨⟨by decide +kernel, by decide +kernel⟩, List.mem_of_getElem? (i := 637) (by decide +kernel), List.mem_of_getElem? (i := 859) (by decide +kernel), List.mem_of_getElem? (i := 860) (by decide +kernel)⟩
theorem lw_p34 : lw_okq (⟨"LeapBoardModel", "others", "(I)I"⟩, 39) := ⟨⟨by decide +kernel, by decide +kernel⟩, List.mem_of_getElem? (i := 637) (by decide +kernel), List.mem_of_getElem? (i := 863) (by decide +kernel), List.mem_of_getElem? (i := 864) (by decide +kernel)⟩
theorem lw_p35 : lw_okq (⟨"LeapBoardModel", "goOn", "(III)V"⟩, 39) := ⟨⟨by decide +kernel, by decide +kernel⟩, List.mem_of_getElem? (i := 637) (by decide +kernel), List.mem_of_getElem? (i := 867) (by decide +kernel), List.mem_of_getElem? (i := 868) (by decide +kernel)⟩
theorem lw_p36 : lw_okq (⟨"LeapBoardModel", "isCell", "(I)Z"⟩, 39) := ⟨⟨by decide +kernel, by decide +kernel⟩, List.mem_of_getElem? (i := 637) (by decide +kernel), List.mem_of_getElem? (i := 879) (by decide +kernel), List.mem_of_getElem? (i := 880) (by decide +kernel)⟩
theorem lw_p37 : lw_okq (⟨"LeapBoardModel", "cellNow", "(II)I"⟩, 39) := ⟨⟨by decide +kernel, by decide +kernel⟩, List.mem_of_getElem? (i := 637) (by decide +kernel), List.mem_of_getElem? (i := 883) (by decide +kernel), List.mem_of_getElem? (i := 884) (by decide +kernel)⟩
theorem lw_p38 : lw_okq (⟨"LeapBoardModel", "whoAt", "(I)I"⟩, 39) := ⟨⟨by decide +kernel, by decide +kernel⟩, List.mem_of_getElem? (i := 637) (by decide +kernel), List.mem_of_getElem? (i := 887) (by decide +kernel), List.mem_of_getElem? (i := 888) (by decide +kernel)⟩
theorem lw_p39 : lw_okq (⟨"LeapBoardModel", "watchersOf", "(I)I"⟩, 39) := ⟨⟨by decide +kernel, by decide +kernel⟩, List.mem_of_getElem? (i := 637) (by decide +kernel), List.mem_of_getElem? (i := 891) (by decide +kernel), List.mem_of_getElem? (i := 892) (by decide +kernel)⟩
theorem lw_p40 : lw_okq (⟨"LeapBoardModel", "hopsNow", "(II)I"⟩, 39) := ⟨⟨by decide +kernel, by decide +kernel⟩, List.mem_of_getElem? (i := 637) (by decide +kernel), List.mem_of_getElem? (i := 915) (by decide +kernel), List.mem_of_getElem? (i := 916) (by decide +kernel)⟩
theorem lw_p41 : lw_okq (⟨"LeapBoardModel", "aroundAll", "(II)I"⟩, 39) := ⟨⟨by decide +kernel, by decide +kernel⟩, List.mem_of_getElem? (i := 637) (by decide +kernel), List.mem_of_getElem? (i := 919) (by decide +kernel), List.mem_of_getElem? (i := 920) (by decide +kernel)⟩
theorem lw_p42 : lw_okq (⟨"LeapBoardModel", "tradeNow", "(II)I"⟩, 39) := ⟨⟨by decide +kernel, by decide +kernel⟩, List.mem_of_getElem? (i := 637) (by decide +kernel), List.mem_of_getElem? (i := 927) (by decide +kernel), List.mem_of_getElem? (i := 928) (by decide +kernel)⟩
theorem lw_p43 : lw_okq (⟨"LeapBoardModel", "comeTo", "(II)V"⟩, 39) := ⟨⟨by decide +kernel, by decide +kernel⟩, List.mem_of_getElem? (i := 637) (by decide +kernel), List.mem_of_getElem? (i := 931) (by decide +kernel), List.mem_of_getElem? (i := 932) (by decide +kernel)⟩
theorem lw_p44 : lw_okq (⟨"LeapBoardModel", "comeFrom", "(IIII)V"⟩, 39) := ⟨⟨by decide +kernel, by decide +kernel⟩, List.mem_of_getElem? (i := 637) (by decide +kernel), List.mem_of_getElem? (i := 935) (by decide +kernel), List.mem_of_getElem? (i := 936) (by decide +kernel)⟩
theorem lw_p45 : lw_okq (⟨"LeapBoardModel", "refused", "(II)I"⟩, 39) := ⟨⟨by decide +kernel, by decide +kernel⟩, List.mem_of_getElem? (i := 637) (by decide +kernel), List.mem_of_getElem? (i := 943) (by decide +kernel), List.mem_of_getElem? (i := 944) (by decide +kernel)⟩
theorem lw_p46 : lw_okq (⟨"LeapBoardModel", "peaceNow", "(II)I"⟩, 39) := ⟨⟨by decide +kernel, by decide +kernel⟩, List.mem_of_getElem? (i := 637) (by decide +kernel), List.mem_of_getElem? (i := 950) (by decide +kernel), List.mem_of_getElem? (i := 951) (by decide +kernel)⟩
theorem lw_p47 : lw_okq (⟨"LeapBoardModel", "peaceSet", "(I)I"⟩, 39) := ⟨⟨by decide +kernel, by decide +kernel⟩, List.mem_of_getElem? (i := 637) (by decide +kernel), List.mem_of_getElem? (i := 954) (by decide +kernel), List.mem_of_getElem? (i := 955) (by decide +kernel)⟩
def lw_privs_3 : List (MethodName × Nat) := [(⟨"LeapBoardModel", "wayOf", "(II)I"⟩, 39), (⟨"LeapBoardModel", "longestBy", "(II)I"⟩, 39), (⟨"LeapBoardModel", "others", "(I)I"⟩, 39), (⟨"LeapBoardModel", "goOn", "(III)V"⟩, 39), (⟨"LeapBoardModel", "isCell", "(I)Z"⟩, 39), (⟨"LeapBoardModel", "cellNow", "(II)I"⟩, 39), (⟨"LeapBoardModel", "whoAt", "(I)I"⟩, 39), (⟨"LeapBoardModel", "watchersOf", "(I)I"⟩, 39), (⟨"LeapBoardModel", "hopsNow", "(II)I"⟩, 39), (⟨"LeapBoardModel", "aroundAll", "(II)I"⟩, 39), (⟨"LeapBoardModel", "tradeNow", "(II)I"⟩, 39), (⟨"LeapBoardModel", "comeTo", "(II)V"⟩, 39), (⟨"LeapBoardModel", "comeFrom", "(IIII)V"⟩, 39), (⟨"LeapBoardModel", "refused", "(II)I"⟩, 39), (⟨"LeapBoardModel", "peaceNow", "(II)I"⟩, 39), (⟨"LeapBoardModel", "peaceSet", "(I)I"⟩, 39)]
theorem lw_r3 : ∀ q ∈ lw_privs_3, lw_okq q := List.forall_mem_cons.mpr ⟨lw_p32, List.forall_mem_cons.mpr ⟨lw_p33, List.forall_mem_cons.mpr ⟨lw_p34, List.forall_mem_cons.mpr ⟨lw_p35, List.forall_mem_cons.mpr ⟨lw_p36, List.forall_mem_cons.mpr ⟨lw_p37, List.forall_mem_cons.mpr ⟨lw_p38, List.forall_mem_cons.mpr ⟨lw_p39, List.forall_mem_cons.mpr ⟨lw_p40, List.forall_mem_cons.mpr ⟨lw_p41, List.forall_mem_cons.mpr ⟨lw_p42, List.forall_mem_cons.mpr ⟨lw_p43, List.forall_mem_cons.mpr ⟨lw_p44, List.forall_mem_cons.mpr ⟨lw_p45, List.forall_mem_cons.mpr ⟨lw_p46, List.forall_mem_cons.mpr ⟨lw_p47, fun _ h => absurd h List.not_mem_nil⟩⟩⟩⟩⟩⟩⟩⟩⟩⟩⟩⟩⟩⟩⟩⟩
theorem lw_p48 : lw_okq (⟨"LeapBoardModel", "guardNow", "(II)I"⟩, 39) := ⟨⟨by decide +kernel, by decide +kernel⟩, List.mem_of_getElem? (i := 637) (by decide +kernel), List.mem_of_getElem? (i := 962) (by decide +kernel), List.mem_of_getElem? (i := 963) (by decide +kernel)⟩
theorem lw_p49 : lw_okq (⟨"LeapBoardModel", "guardSet", "(I)I"⟩, 39) := ⟨⟨by decide +kernel, by decide +kernel⟩, List.mem_of_getElem? (i := 637) (by decide +kernel), List.mem_of_getElem? (i := 966) (by decide +kernel), List.mem_of_getElem? (i := 967) (by decide +kernel)⟩
theorem lw_p50 : lw_okq (⟨"LeapBoardModel", "partsTold", "(II)I"⟩, 39) := ⟨⟨by decide +kernel, by decide +kernel⟩, List.mem_of_getElem? (i := 637) (by decide +kernel), List.mem_of_getElem? (i := 974) (by decide +kernel), List.mem_of_getElem? (i := 975) (by decide +kernel)⟩
theorem lw_p51 : lw_okq (⟨"LeapBoardModel", "partsNow", "(I)I"⟩, 39) := ⟨⟨by decide +kernel, by decide +kernel⟩, List.mem_of_getElem? (i := 637) (by decide +kernel), List.mem_of_getElem? (i := 978) (by decide +kernel), List.mem_of_getElem? (i := 979) (by decide +kernel)⟩
theorem lw_p52 : lw_okq (⟨"LeapBoardModel", "partOf", "(II)I"⟩, 39) := ⟨⟨by decide +kernel, by decide +kernel⟩, List.mem_of_getElem? (i := 637) (by decide +kernel), List.mem_of_getElem? (i := 982) (by decide +kernel), List.mem_of_getElem? (i := 983) (by decide +kernel)⟩
theorem lw_p53 : lw_okq (⟨"LeapBoardModel", "areShades", "(I)Z"⟩, 39) := ⟨⟨by decide +kernel, by decide +kernel⟩, List.mem_of_getElem? (i := 637) (by decide +kernel), List.mem_of_getElem? (i := 986) (by decide +kernel), List.mem_of_getElem? (i := 987) (by decide +kernel)⟩
theorem lw_p54 : lw_okq (⟨"LeapBoardModel", "chanceNow", "(III)I"⟩, 39) := ⟨⟨by decide +kernel, by decide +kernel⟩, List.mem_of_getElem? (i := 637) (by decide +kernel), List.mem_of_getElem? (i := 994) (by decide +kernel), List.mem_of_getElem? (i := 995) (by decide +kernel)⟩
theorem lw_p55 : lw_okq (⟨"LeapBoardModel", "chanceFrom", "(III)I"⟩, 39) := ⟨⟨by decide +kernel, by decide +kernel⟩, List.mem_of_getElem? (i := 637) (by decide +kernel), List.mem_of_getElem? (i := 999) (by decide +kernel), List.mem_of_getElem? (i := 1000) (by decide +kernel)⟩
theorem lw_p56 : lw_okq (⟨"LeapBoardModel", "walksNow", "(III)I"⟩, 39) := ⟨⟨by decide +kernel, by decide +kernel⟩, List.mem_of_getElem? (i := 637) (by decide +kernel), List.mem_of_getElem? (i := 1015) (by decide +kernel), List.mem_of_getElem? (i := 1016) (by decide +kernel)⟩
theorem lw_p57 : lw_okq (⟨"LeapBoardModel", "draw", "(I)I"⟩, 39) := ⟨⟨by decide +kernel, by decide +kernel⟩, List.mem_of_getElem? (i := 637) (by decide +kernel), List.mem_of_getElem? (i := 1019) (by decide +kernel), List.mem_of_getElem? (i := 1020) (by decide +kernel)⟩
theorem lw_p58 : lw_okq (⟨"LeapBoardModel", "watchedFree", "()I"⟩, 39) := ⟨⟨by decide +kernel, by decide +kernel⟩, List.mem_of_getElem? (i := 637) (by decide +kernel), List.mem_of_getElem? (i := 1030) (by decide +kernel), List.mem_of_getElem? (i := 1031) (by decide +kernel)⟩
theorem lw_p59 : lw_okq (⟨"LeapBoardModel", "howMany", "(I)I"⟩, 39) := ⟨⟨by decide +kernel, by decide +kernel⟩, List.mem_of_getElem? (i := 637) (by decide +kernel), List.mem_of_getElem? (i := 1046) (by decide +kernel), List.mem_of_getElem? (i := 1047) (by decide +kernel)⟩
theorem lw_p60 : lw_okq (⟨"LeapBoardModel", "mix", "(J)V"⟩, 39) := ⟨⟨by decide +kernel, by decide +kernel⟩, List.mem_of_getElem? (i := 637) (by decide +kernel), List.mem_of_getElem? (i := 1055) (by decide +kernel), List.mem_of_getElem? (i := 1056) (by decide +kernel)⟩
theorem lw_p61 : lw_okq (⟨"LeapBoardModel", "mixBoard", "()V"⟩, 39) := ⟨⟨by decide +kernel, by decide +kernel⟩, List.mem_of_getElem? (i := 637) (by decide +kernel), List.mem_of_getElem? (i := 1062) (by decide +kernel), List.mem_of_getElem? (i := 1063) (by decide +kernel)⟩
def lw_privs_4 : List (MethodName × Nat) := [(⟨"LeapBoardModel", "guardNow", "(II)I"⟩, 39), (⟨"LeapBoardModel", "guardSet", "(I)I"⟩, 39), (⟨"LeapBoardModel", "partsTold", "(II)I"⟩, 39), (⟨"LeapBoardModel", "partsNow", "(I)I"⟩, 39), (⟨"LeapBoardModel", "partOf", "(II)I"⟩, 39), (⟨"LeapBoardModel", "areShades", "(I)Z"⟩, 39), (⟨"LeapBoardModel", "chanceNow", "(III)I"⟩, 39), (⟨"LeapBoardModel", "chanceFrom", "(III)I"⟩, 39), (⟨"LeapBoardModel", "walksNow", "(III)I"⟩, 39), (⟨"LeapBoardModel", "draw", "(I)I"⟩, 39), (⟨"LeapBoardModel", "watchedFree", "()I"⟩, 39), (⟨"LeapBoardModel", "howMany", "(I)I"⟩, 39), (⟨"LeapBoardModel", "mix", "(J)V"⟩, 39), (⟨"LeapBoardModel", "mixBoard", "()V"⟩, 39)]
theorem lw_r4 : ∀ q ∈ lw_privs_4, lw_okq q := List.forall_mem_cons.mpr ⟨lw_p48, List.forall_mem_cons.mpr ⟨lw_p49, List.forall_mem_cons.mpr ⟨lw_p50, List.forall_mem_cons.mpr ⟨lw_p51, List.forall_mem_cons.mpr ⟨lw_p52, List.forall_mem_cons.mpr ⟨lw_p53, List.forall_mem_cons.mpr ⟨lw_p54, List.forall_mem_cons.mpr ⟨lw_p55, List.forall_mem_cons.mpr ⟨lw_p56, List.forall_mem_cons.mpr ⟨lw_p57, List.forall_mem_cons.mpr ⟨lw_p58, List.forall_mem_cons.mpr ⟨lw_p59, List.forall_mem_cons.mpr ⟨lw_p60, List.forall_mem_cons.mpr ⟨lw_p61, fun _ h => absurd h List.not_mem_nil⟩⟩⟩⟩⟩⟩⟩⟩⟩⟩⟩⟩⟩⟩
def lw_privs : List (MethodName × Nat) := lw_privs_1 ++ (lw_privs_2 ++ (lw_privs_3 ++ (lw_privs_4)))
def lw_tbl : List Cond := k2_sels lw_privs ++ tables_1
theorem lw_privs_ok : ∀ q ∈ lw_privs, lw_okq q := by
  show ∀ q ∈ lw_privs_1 ++ (lw_privs_2 ++ (lw_privs_3 ++ (lw_privs_4))), lw_okq q
  exact List.forall_mem_append.mpr ⟨lw_r1, List.forall_mem_append.mpr ⟨lw_r2, List.forall_mem_append.mpr ⟨lw_r3, lw_r4⟩⟩⟩
def RX0 : String := "LeapBoard$Draws"
def TX0 : u_T := fun k => match k with
  | _ => ("LeapBoard$Draws", "seed", "I", false)
def tyX0 : Nat → FieldType := fun k => match k with
  | _ => .int
abbrev wsX00 : List Cond := u_ws RX0 TX0 1
theorem nmX0 : ∀ a, a < 1 → ∀ b, b < 1 → a ≠ b → (TX0 a).2.1 ≠ (TX0 b).2.1 := by decide +kernel
theorem tyX0_ok : ∀ k, k < 1 → parseFieldDescriptor (TX0 k).2.2.1 = some (tyX0 k) := by decide +kernel
abbrev cX0_init : ByteArray := prog_2_method_1_code
def yX0_init : MethodName := ⟨RX0, "<init>", "()V"⟩
abbrev cX0_next : ByteArray := prog_2_method_2_code
def yX0_next : MethodName := ⟨RX0, "next", "(I)I"⟩
def RX1 : String := "LeapBoard$Ground"
def TX1 : u_T := fun k => match k with
  | 0 => ("LeapBoard$Ground", "rows", "I", false)
  | 1 => ("LeapBoard$Ground", "columns", "I", false)
  | 2 => ("LeapBoard$Ground", "cells", "I", false)
  | _ => ("LeapBoard$Ground", "fans", "[[I", true)
def tyX1 : Nat → FieldType := fun k => match k with
  | 0 => .int
  | 1 => .int
  | 2 => .int
  | _ => .array (.array .int)
abbrev wsX10 : List Cond := u_ws RX1 TX1 4
theorem nmX1 : ∀ a, a < 4 → ∀ b, b < 4 → a ≠ b → (TX1 a).2.1 ≠ (TX1 b).2.1 := by decide +kernel
theorem tyX1_ok : ∀ k, k < 4 → parseFieldDescriptor (TX1 k).2.2.1 = some (tyX1 k) := by decide +kernel
abbrev cX1_init : ByteArray := prog_3_method_1_code
def yX1_init : MethodName := ⟨RX1, "<init>", "()V"⟩
abbrev cX1_lay : ByteArray := prog_3_method_2_code
def yX1_lay : MethodName := ⟨RX1, "lay", "(II)V"⟩
abbrev cX1_hasCell : ByteArray := prog_3_method_3_code
def yX1_hasCell : MethodName := ⟨RX1, "hasCell", "(I)Z"⟩
abbrev cX1_fanOf : ByteArray := prog_3_method_4_code
def yX1_fanOf : MethodName := ⟨RX1, "fanOf", "(I)[I"⟩
abbrev cX1_fanFrom : ByteArray := prog_3_method_5_code
def yX1_fanFrom : MethodName := ⟨RX1, "fanFrom", "(II)I"⟩
abbrev cX1_spread : ByteArray := prog_3_method_6_code
def yX1_spread : MethodName := ⟨RX1, "spread", "([II)I"⟩
abbrev cX1_partAround : ByteArray := prog_3_method_7_code
def yX1_partAround : MethodName := ⟨RX1, "partAround", "([III)I"⟩
abbrev cX1_partCount : ByteArray := prog_3_method_8_code
def yX1_partCount : MethodName := ⟨RX1, "partCount", "([II)I"⟩
abbrev cX1_isTwoShaded : ByteArray := prog_3_method_9_code
def yX1_isTwoShaded : MethodName := ⟨RX1, "isTwoShaded", "([II)Z"⟩
abbrev cX1_mostInPeace : ByteArray := prog_3_method_10_code
def yX1_mostInPeace : MethodName := ⟨RX1, "mostInPeace", "([III)I"⟩
abbrev cX1_isLarger : ByteArray := prog_3_method_11_code
def yX1_isLarger : MethodName := ⟨RX1, "isLarger", "(II)Z"⟩
abbrev cX1_fewestGuards : ByteArray := prog_3_method_12_code
def yX1_fewestGuards : MethodName := ⟨RX1, "fewestGuards", "([IIIIII)I"⟩
def RX2 : String := "LeapBoard$Page"
def TX2 : u_T := fun k => match k with
  | 0 => ("LeapBoard$Page", "codes", "[I", true)
  | 1 => ("LeapBoard$Page", "size", "I", false)
  | _ => ("LeapBoard$Page", "cells", "I", false)
def tyX2 : Nat → FieldType := fun k => match k with
  | 0 => .array .int
  | 1 => .int
  | _ => .int
abbrev wsX20 : List Cond := u_ws RX2 TX2 3
theorem nmX2 : ∀ a, a < 3 → ∀ b, b < 3 → a ≠ b → (TX2 a).2.1 ≠ (TX2 b).2.1 := by decide +kernel
theorem tyX2_ok : ∀ k, k < 3 → parseFieldDescriptor (TX2 k).2.2.1 = some (tyX2 k) := by decide +kernel
abbrev cX2_init : ByteArray := prog_4_method_1_code
def yX2_init : MethodName := ⟨RX2, "<init>", "()V"⟩
abbrev cX2_put : ByteArray := prog_4_method_2_code
def yX2_put : MethodName := ⟨RX2, "put", "(I)Z"⟩
abbrev cX2_clear : ByteArray := prog_4_method_3_code
def yX2_clear : MethodName := ⟨RX2, "clear", "()I"⟩
abbrev cX2_at : ByteArray := prog_4_method_4_code
def yX2_at : MethodName := ⟨RX2, "at", "(I)I"⟩
abbrev cX2_firstFault : ByteArray := prog_4_method_5_code
def yX2_firstFault : MethodName := ⟨RX2, "firstFault", "()I"⟩
abbrev cX2_isWhole : ByteArray := prog_4_method_6_code
def yX2_isWhole : MethodName := ⟨RX2, "isWhole", "()Z"⟩
abbrev cX2_rows : ByteArray := prog_4_method_7_code
def yX2_rows : MethodName := ⟨RX2, "rows", "()I"⟩
abbrev cX2_columns : ByteArray := prog_4_method_8_code
def yX2_columns : MethodName := ⟨RX2, "columns", "()I"⟩
abbrev cX2_freeCells : ByteArray := prog_4_method_9_code
def yX2_freeCells : MethodName := ⟨RX2, "freeCells", "()I"⟩
abbrev cX2_leapers : ByteArray := prog_4_method_10_code
def yX2_leapers : MethodName := ⟨RX2, "leapers", "()I"⟩
abbrev cX2_kindOf : ByteArray := prog_4_method_11_code
def yX2_kindOf : MethodName := ⟨RX2, "kindOf", "(I)I"⟩
abbrev cX2_standOf : ByteArray := prog_4_method_12_code
def yX2_standOf : MethodName := ⟨RX2, "standOf", "(I)I"⟩
abbrev cX2_kindPlace : ByteArray := prog_4_method_13_code
def yX2_kindPlace : MethodName := ⟨RX2, "kindPlace", "(I)I"⟩
abbrev cX2_kindFor : ByteArray := prog_4_method_14_code
def yX2_kindFor : MethodName := ⟨RX2, "kindFor", "(I)I"⟩
abbrev cX2_fits : ByteArray := prog_4_method_15_code
def yX2_fits : MethodName := ⟨RX2, "fits", "(I)Z"⟩
abbrev cX2_isOpenTo : ByteArray := prog_4_method_16_code
def yX2_isOpenTo : MethodName := ⟨RX2, "isOpenTo", "(I)Z"⟩
def RX3 : String := "LeapBoard$Scene"
def TX3 : u_T := fun k => match k with
  | 0 => ("LeapBoard$Scene", "free", "I", false)
  | 1 => ("LeapBoard$Scene", "leapers", "I", false)
  | 2 => ("LeapBoard$Scene", "leaps", "I", false)
  | 3 => ("LeapBoard$Scene", "seen", "I", false)
  | 4 => ("LeapBoard$Scene", "kinds", "[I", true)
  | 5 => ("LeapBoard$Scene", "stands", "[I", true)
  | 6 => ("LeapBoard$Scene", "seenOf", "[I", true)
  | _ => ("LeapBoard$Scene", "seenSorts", "[I", true)
def tyX3 : Nat → FieldType := fun k => match k with
  | 0 => .int
  | 1 => .int
  | 2 => .int
  | 3 => .int
  | 4 => .array .int
  | 5 => .array .int
  | 6 => .array .int
  | _ => .array .int
abbrev wsX30 : List Cond := u_ws RX3 TX3 8
theorem nmX3 : ∀ a, a < 8 → ∀ b, b < 8 → a ≠ b → (TX3 a).2.1 ≠ (TX3 b).2.1 := by decide +kernel
theorem tyX3_ok : ∀ k, k < 8 → parseFieldDescriptor (TX3 k).2.2.1 = some (tyX3 k) := by decide +kernel
abbrev cX3_init : ByteArray := prog_5_method_1_code
def yX3_init : MethodName := ⟨RX3, "<init>", "()V"⟩
abbrev cX3_isThere : ByteArray := prog_5_method_2_code
def yX3_isThere : MethodName := ⟨RX3, "isThere", "()Z"⟩
abbrev cX3_hasLeaper : ByteArray := prog_5_method_3_code
def yX3_hasLeaper : MethodName := ⟨RX3, "hasLeaper", "(I)Z"⟩
abbrev cX3_kindOf : ByteArray := prog_5_method_4_code
def yX3_kindOf : MethodName := ⟨RX3, "kindOf", "(I)I"⟩
abbrev cX3_standOf : ByteArray := prog_5_method_5_code
def yX3_standOf : MethodName := ⟨RX3, "standOf", "(I)I"⟩
abbrev cX3_empty : ByteArray := prog_5_method_6_code
def yX3_empty : MethodName := ⟨RX3, "empty", "()I"⟩
abbrev cX3_whoStands : ByteArray := prog_5_method_7_code
def yX3_whoStands : MethodName := ⟨RX3, "whoStands", "(I)I"⟩
abbrev cX3_note : ByteArray := prog_5_method_8_code
def yX3_note : MethodName := ⟨RX3, "note", "(II)Z"⟩
abbrev cX3_sorts : ByteArray := prog_5_method_9_code
def yX3_sorts : MethodName := ⟨RX3, "sorts", "(I)I"⟩
abbrev cX3_copy : ByteArray := prog_5_method_10_code
def yX3_copy : MethodName := ⟨RX3, "copy", "(LLeapBoard$Scene;)V"⟩
def RX4 : String := "LeapBoard$Trips"
def TX4 : u_T := fun k => match k with
  | 0 => ("LeapBoard$Trips", "starts", "[I", true)
  | 1 => ("LeapBoard$Trips", "firsts", "[I", true)
  | 2 => ("LeapBoard$Trips", "pairs", "[I", true)
  | 3 => ("LeapBoard$Trips", "nextPairs", "[I", true)
  | 4 => ("LeapBoard$Trips", "chances", "[I", true)
  | _ => ("LeapBoard$Trips", "nextChances", "[I", true)
def tyX4 : Nat → FieldType := fun k => match k with
  | 0 => .array .int
  | 1 => .array .int
  | 2 => .array .int
  | 3 => .array .int
  | 4 => .array .int
  | _ => .array .int
abbrev wsX40 : List Cond := u_ws RX4 TX4 6
theorem nmX4 : ∀ a, a < 6 → ∀ b, b < 6 → a ≠ b → (TX4 a).2.1 ≠ (TX4 b).2.1 := by decide +kernel
theorem tyX4_ok : ∀ k, k < 6 → parseFieldDescriptor (TX4 k).2.2.1 = some (tyX4 k) := by decide +kernel
abbrev cX4_init : ByteArray := prog_6_method_1_code
def yX4_init : MethodName := ⟨RX4, "<init>", "()V"⟩
abbrev cX4_fewest : ByteArray := prog_6_method_2_code
def yX4_fewest : MethodName := ⟨RX4, "fewest", "([IIII)I"⟩
abbrev cX4_longest : ByteArray := prog_6_method_3_code
def yX4_longest : MethodName := ⟨RX4, "longest", "([III)I"⟩
abbrev cX4_firstOfLongest : ByteArray := prog_6_method_4_code
def yX4_firstOfLongest : MethodName := ⟨RX4, "firstOfLongest", "([III)I"⟩
abbrev cX4_mostBehind : ByteArray := prog_6_method_5_code
def yX4_mostBehind : MethodName := ⟨RX4, "mostBehind", "()I"⟩
abbrev cX4_findFirsts : ByteArray := prog_6_method_6_code
def yX4_findFirsts : MethodName := ⟨RX4, "findFirsts", "([III)V"⟩
abbrev cX4_startsOf : ByteArray := prog_6_method_7_code
def yX4_startsOf : MethodName := ⟨RX4, "startsOf", "([II)I"⟩
abbrev cX4_fewestToTrade : ByteArray := prog_6_method_8_code
def yX4_fewestToTrade : MethodName := ⟨RX4, "fewestToTrade", "([I[IIII)I"⟩
abbrev cX4_spreadPairs : ByteArray := prog_6_method_9_code
def yX4_spreadPairs : MethodName := ⟨RX4, "spreadPairs", "([I[II)Z"⟩
abbrev cX4_likelihood : ByteArray := prog_6_method_10_code
def yX4_likelihood : MethodName := ⟨RX4, "likelihood", "([IIIII)I"⟩
abbrev cX4_addLeap : ByteArray := prog_6_method_11_code
def yX4_addLeap : MethodName := ⟨RX4, "addLeap", "([II)V"⟩
abbrev cX4_sumOver : ByteArray := prog_6_method_12_code
def yX4_sumOver : MethodName := ⟨RX4, "sumOver", "(I)I"⟩
def RX5 : String := "LeapBoard"
def TX5 : u_T := fun k => match k with
  | 0 => ("LeapBoard", "page", "LLeapBoard$Page;", true)
  | 1 => ("LeapBoard", "ground", "LLeapBoard$Ground;", true)
  | 2 => ("LeapBoard", "now", "LLeapBoard$Scene;", true)
  | 3 => ("LeapBoard", "kept", "LLeapBoard$Scene;", true)
  | 4 => ("LeapBoard", "trial", "LLeapBoard$Scene;", true)
  | 5 => ("LeapBoard", "trips", "LLeapBoard$Trips;", true)
  | 6 => ("LeapBoard", "draws", "LLeapBoard$Draws;", true)
  | 7 => ("LeapBoard", "isKept", "Z", false)
  | _ => ("LeapBoard", "reads", "I", false)
def tyX5 : Nat → FieldType := fun k => match k with
  | 0 => .object "LeapBoard$Page"
  | 1 => .object "LeapBoard$Ground"
  | 2 => .object "LeapBoard$Scene"
  | 3 => .object "LeapBoard$Scene"
  | 4 => .object "LeapBoard$Scene"
  | 5 => .object "LeapBoard$Trips"
  | 6 => .object "LeapBoard$Draws"
  | 7 => .boolean
  | _ => .int
abbrev wsX50 : List Cond := u_ws RX5 TX5 9
theorem nmX5 : ∀ a, a < 9 → ∀ b, b < 9 → a ≠ b → (TX5 a).2.1 ≠ (TX5 b).2.1 := by decide +kernel
theorem tyX5_ok : ∀ k, k < 9 → parseFieldDescriptor (TX5 k).2.2.1 = some (tyX5 k) := by decide +kernel
abbrev cX5_init : ByteArray := prog_1_method_1_code
def yX5_init : MethodName := ⟨RX5, "<init>", "()V"⟩
abbrev cX5_letter : ByteArray := prog_1_method_2_code
def yX5_letter : MethodName := ⟨RX5, "letter", "(I)I"⟩
abbrev cX5_blank : ByteArray := prog_1_method_3_code
def yX5_blank : MethodName := ⟨RX5, "blank", "()I"⟩
abbrev cX5_fault : ByteArray := prog_1_method_4_code
def yX5_fault : MethodName := ⟨RX5, "fault", "()I"⟩
abbrev cX5_board : ByteArray := prog_1_method_5_code
def yX5_board : MethodName := ⟨RX5, "board", "()I"⟩
abbrev cX5_leaper : ByteArray := prog_1_method_6_code
def yX5_leaper : MethodName := ⟨RX5, "leaper", "(II)I"⟩
abbrev cX5_as : ByteArray := prog_1_method_7_code
def yX5_as : MethodName := ⟨RX5, "as", "(II)I"⟩
abbrev cX5_cell : ByteArray := prog_1_method_8_code
def yX5_cell : MethodName := ⟨RX5, "cell", "(II)I"⟩
abbrev cX5_leap : ByteArray := prog_1_method_9_code
def yX5_leap : MethodName := ⟨RX5, "leap", "(II)I"⟩
abbrev cX5_dig : ByteArray := prog_1_method_10_code
def yX5_dig : MethodName := ⟨RX5, "dig", "(I)I"⟩
abbrev cX5_fill : ByteArray := prog_1_method_11_code
def yX5_fill : MethodName := ⟨RX5, "fill", "(I)I"⟩
abbrev cX5_be : ByteArray := prog_1_method_12_code
def yX5_be : MethodName := ⟨RX5, "be", "(II)I"⟩
abbrev cX5_hops : ByteArray := prog_1_method_13_code
def yX5_hops : MethodName := ⟨RX5, "hops", "(II)I"⟩
abbrev cX5_trade : ByteArray := prog_1_method_14_code
def yX5_trade : MethodName := ⟨RX5, "trade", "(II)I"⟩
abbrev cX5_peace : ByteArray := prog_1_method_15_code
def yX5_peace : MethodName := ⟨RX5, "peace", "(II)I"⟩
abbrev cX5_guard : ByteArray := prog_1_method_16_code
def yX5_guard : MethodName := ⟨RX5, "guard", "(II)I"⟩
abbrev cX5_parts : ByteArray := prog_1_method_17_code
def yX5_parts : MethodName := ⟨RX5, "parts", "(II)I"⟩
abbrev cX5_chance : ByteArray := prog_1_method_18_code
def yX5_chance : MethodName := ⟨RX5, "chance", "(III)I"⟩
abbrev cX5_see : ByteArray := prog_1_method_19_code
def yX5_see : MethodName := ⟨RX5, "see", "(IIIZ)I"⟩
abbrev cX5_forget : ByteArray := prog_1_method_20_code
def yX5_forget : MethodName := ⟨RX5, "forget", "()I"⟩
abbrev cX5_walks : ByteArray := prog_1_method_21_code
def yX5_walks : MethodName := ⟨RX5, "walks", "(III)I"⟩
abbrev cX5_image : ByteArray := prog_1_method_22_code
def yX5_image : MethodName := ⟨RX5, "image", "()I"⟩
abbrev cX5_restore : ByteArray := prog_1_method_23_code
def yX5_restore : MethodName := ⟨RX5, "restore", "()I"⟩
abbrev cX5_count : ByteArray := prog_1_method_24_code
def yX5_count : MethodName := ⟨RX5, "count", "(I)I"⟩
abbrev cX5_digest : ByteArray := prog_1_method_25_code
def yX5_digest : MethodName := ⟨RX5, "digest", "()J"⟩
abbrev cX5_mix : ByteArray := prog_1_method_26_code
def yX5_mix : MethodName := ⟨RX5, "mix", "(JJ)J"⟩
abbrev cX5_mixLeapers : ByteArray := prog_1_method_27_code
def yX5_mixLeapers : MethodName := ⟨RX5, "mixLeapers", "(J)J"⟩
abbrev cX5_mixCells : ByteArray := prog_1_method_28_code
def yX5_mixCells : MethodName := ⟨RX5, "mixCells", "(J)J"⟩
abbrev cX5_mixKinds : ByteArray := prog_1_method_29_code
def yX5_mixKinds : MethodName := ⟨RX5, "mixKinds", "(J)J"⟩
abbrev cX5_fanOfLeaper : ByteArray := prog_1_method_30_code
def yX5_fanOfLeaper : MethodName := ⟨RX5, "fanOfLeaper", "(I)[I"⟩
abbrev cX5_watchedBy : ByteArray := prog_1_method_31_code
def yX5_watchedBy : MethodName := ⟨RX5, "watchedBy", "(LLeapBoard$Scene;I)I"⟩
abbrev cX5_goals : ByteArray := prog_1_method_32_code
def yX5_goals : MethodName := ⟨RX5, "goals", "(LLeapBoard$Scene;I)I"⟩
abbrev cX5_watchers : ByteArray := prog_1_method_33_code
def yX5_watchers : MethodName := ⟨RX5, "watchers", "(I)I"⟩
abbrev cX5_watchedEmpty : ByteArray := prog_1_method_34_code
def yX5_watchedEmpty : MethodName := ⟨RX5, "watchedEmpty", "(LLeapBoard$Scene;)I"⟩
abbrev cX5_walkTrial : ByteArray := prog_1_method_35_code
def yX5_walkTrial : MethodName := ⟨RX5, "walkTrial", "(II)V"⟩
abbrev cX5_isKind : ByteArray := prog_1_method_36_code
def yX5_isKind : MethodName := ⟨RX5, "isKind", "(I)Z"⟩
abbrev cX5_isOneOfTwo : ByteArray := prog_1_method_37_code
def yX5_isOneOfTwo : MethodName := ⟨RX5, "isOneOfTwo", "(I)Z"⟩
abbrev cX5_goes : ByteArray := prog_1_method_38_code
def yX5_goes : MethodName := ⟨RX5, "goes", "(III)Z"⟩
abbrev cX5_goers : ByteArray := prog_1_method_39_code
def yX5_goers : MethodName := ⟨RX5, "goers", "(II)I"⟩
abbrev cX5_bestAsk : ByteArray := prog_1_method_40_code
def yX5_bestAsk : MethodName := ⟨RX5, "bestAsk", "(I)I"⟩
abbrev cX5_has : ByteArray := prog_1_method_41_code
def yX5_has : MethodName := ⟨RX5, "has", "(II)Z"⟩
abbrev cX5_lowestOf : ByteArray := prog_1_method_42_code
def yX5_lowestOf : MethodName := ⟨RX5, "lowestOf", "(I)I"⟩
abbrev cX5_nthOf : ByteArray := prog_1_method_43_code
def yX5_nthOf : MethodName := ⟨RX5, "nthOf", "(II)I"⟩
def RX6 : String := "LeapBoardModel"
def TX6 : u_T := fun k => match k with
  | 0 => ("LeapBoardModel", "boards", "I", false)
  | 1 => ("LeapBoardModel", "high", "I", false)
  | 2 => ("LeapBoardModel", "wide", "I", false)
  | 3 => ("LeapBoardModel", "free", "I", false)
  | 4 => ("LeapBoardModel", "leapers", "I", false)
  | 5 => ("LeapBoardModel", "kindOf", "[I", true)
  | 6 => ("LeapBoardModel", "cellOf", "[I", true)
  | 7 => ("LeapBoardModel", "leaps", "I", false)
  | 8 => ("LeapBoardModel", "seen", "I", false)
  | 9 => ("LeapBoardModel", "seenLeaper", "[I", true)
  | 10 => ("LeapBoardModel", "seenRows", "[I", true)
  | 11 => ("LeapBoardModel", "seenColumns", "[I", true)
  | 12 => ("LeapBoardModel", "seenCan", "[I", true)
  | 13 => ("LeapBoardModel", "pageLength", "I", false)
  | 14 => ("LeapBoardModel", "page", "[B", true)
  | 15 => ("LeapBoardModel", "isWhole", "Z", false)
  | 16 => ("LeapBoardModel", "newCells", "I", false)
  | 17 => ("LeapBoardModel", "newFree", "I", false)
  | 18 => ("LeapBoardModel", "newLeapers", "I", false)
  | 19 => ("LeapBoardModel", "tradeBy", "[I", true)
  | 20 => ("LeapBoardModel", "tradeRow", "[I", true)
  | 21 => ("LeapBoardModel", "tradeLength", "I", false)
  | 22 => ("LeapBoardModel", "endsOf", "[I", true)
  | 23 => ("LeapBoardModel", "chanceBy", "[I", true)
  | 24 => ("LeapBoardModel", "chanceNext", "[I", true)
  | 25 => ("LeapBoardModel", "seedNow", "J", false)
  | 26 => ("LeapBoardModel", "savedCell", "[I", true)
  | 27 => ("LeapBoardModel", "isKept", "Z", false)
  | 28 => ("LeapBoardModel", "keptBoard", "I", false)
  | 29 => ("LeapBoardModel", "keptFree", "I", false)
  | 30 => ("LeapBoardModel", "keptLeaps", "I", false)
  | 31 => ("LeapBoardModel", "keptSeen", "I", false)
  | 32 => ("LeapBoardModel", "keptKind", "[I", true)
  | 33 => ("LeapBoardModel", "keptCell", "[I", true)
  | 34 => ("LeapBoardModel", "keptLeaper", "[I", true)
  | 35 => ("LeapBoardModel", "keptRows", "[I", true)
  | 36 => ("LeapBoardModel", "keptColumns", "[I", true)
  | 37 => ("LeapBoardModel", "keptCan", "[I", true)
  | _ => ("LeapBoardModel", "h", "J", false)
def tyX6 : Nat → FieldType := fun k => match k with
  | 0 => .int
  | 1 => .int
  | 2 => .int
  | 3 => .int
  | 4 => .int
  | 5 => .array .int
  | 6 => .array .int
  | 7 => .int
  | 8 => .int
  | 9 => .array .int
  | 10 => .array .int
  | 11 => .array .int
  | 12 => .array .int
  | 13 => .int
  | 14 => .array .byte
  | 15 => .boolean
  | 16 => .int
  | 17 => .int
  | 18 => .int
  | 19 => .array .int
  | 20 => .array .int
  | 21 => .int
  | 22 => .array .int
  | 23 => .array .int
  | 24 => .array .int
  | 25 => .long
  | 26 => .array .int
  | 27 => .boolean
  | 28 => .int
  | 29 => .int
  | 30 => .int
  | 31 => .int
  | 32 => .array .int
  | 33 => .array .int
  | 34 => .array .int
  | 35 => .array .int
  | 36 => .array .int
  | 37 => .array .int
  | _ => .long
abbrev wsX60 : List Cond := u_ws RX6 TX6 39
theorem nmX6 : ∀ a, a < 39 → ∀ b, b < 39 → a ≠ b → (TX6 a).2.1 ≠ (TX6 b).2.1 := by decide +kernel
theorem tyX6_ok : ∀ k, k < 39 → parseFieldDescriptor (TX6 k).2.2.1 = some (tyX6 k) := by decide +kernel
abbrev cX6_init : ByteArray := prog_8_method_1_code
def yX6_init : MethodName := ⟨RX6, "<init>", "()V"⟩
abbrev cX6_within : ByteArray := prog_8_method_3_code
def yX6_within : MethodName := ⟨RX6, "within", "(III)Z"⟩
abbrev cX6_isIn : ByteArray := prog_8_method_4_code
def yX6_isIn : MethodName := ⟨RX6, "isIn", "(II)Z"⟩
abbrev cX6_size : ByteArray := prog_8_method_5_code
def yX6_size : MethodName := ⟨RX6, "size", "(I)I"⟩
abbrev cX6_letter : ByteArray := prog_8_method_6_code
def yX6_letter : MethodName := ⟨RX6, "letter", "(I)I"⟩
abbrev cX6_blank : ByteArray := prog_8_method_7_code
def yX6_blank : MethodName := ⟨RX6, "blank", "()I"⟩
abbrev cX6_kindBy : ByteArray := prog_8_method_8_code
def yX6_kindBy : MethodName := ⟨RX6, "kindBy", "(I)I"⟩
abbrev cX6_at : ByteArray := prog_8_method_9_code
def yX6_at : MethodName := ⟨RX6, "at", "(I)I"⟩
abbrev cX6_readCells : ByteArray := prog_8_method_10_code
def yX6_readCells : MethodName := ⟨RX6, "readCells", "(I)I"⟩
abbrev cX6_readLeapers : ByteArray := prog_8_method_11_code
def yX6_readLeapers : MethodName := ⟨RX6, "readLeapers", "(I)I"⟩
abbrev cX6_read : ByteArray := prog_8_method_12_code
def yX6_read : MethodName := ⟨RX6, "read", "()I"⟩
abbrev cX6_fault : ByteArray := prog_8_method_13_code
def yX6_fault : MethodName := ⟨RX6, "fault", "()I"⟩
abbrev cX6_board : ByteArray := prog_8_method_14_code
def yX6_board : MethodName := ⟨RX6, "board", "()I"⟩
abbrev cX6_cells : ByteArray := prog_8_method_15_code
def yX6_cells : MethodName := ⟨RX6, "cells", "()I"⟩
abbrev cX6_isLeaper : ByteArray := prog_8_method_16_code
def yX6_isLeaper : MethodName := ⟨RX6, "isLeaper", "(I)Z"⟩
abbrev cX6_isCell : ByteArray := prog_8_method_17_code
def yX6_isCell : MethodName := ⟨RX6, "isCell", "(I)Z"⟩
abbrev cX6_isBy : ByteArray := prog_8_method_18_code
def yX6_isBy : MethodName := ⟨RX6, "isBy", "(IIII)Z"⟩
abbrev cX6_canBy : ByteArray := prog_8_method_19_code
def yX6_canBy : MethodName := ⟨RX6, "canBy", "(III)Z"⟩
abbrev cX6_apart : ByteArray := prog_8_method_20_code
def yX6_apart : MethodName := ⟨RX6, "apart", "(II)I"⟩
abbrev cX6_around : ByteArray := prog_8_method_21_code
def yX6_around : MethodName := ⟨RX6, "around", "(II)I"⟩
abbrev cX6_standing : ByteArray := prog_8_method_22_code
def yX6_standing : MethodName := ⟨RX6, "standing", "()I"⟩
abbrev cX6_watched : ByteArray := prog_8_method_23_code
def yX6_watched : MethodName := ⟨RX6, "watched", "(I)I"⟩
abbrev cX6_canGo : ByteArray := prog_8_method_24_code
def yX6_canGo : MethodName := ⟨RX6, "canGo", "(I)I"⟩
abbrev cX6_others : ByteArray := prog_8_method_25_code
def yX6_others : MethodName := ⟨RX6, "others", "(I)I"⟩
abbrev cX6_leaperNow : ByteArray := prog_8_method_26_code
def yX6_leaperNow : MethodName := ⟨RX6, "leaperNow", "(II)I"⟩
abbrev cX6_leaper : ByteArray := prog_8_method_27_code
def yX6_leaper : MethodName := ⟨RX6, "leaper", "(II)I"⟩
abbrev cX6_as : ByteArray := prog_8_method_28_code
def yX6_as : MethodName := ⟨RX6, "as", "(II)I"⟩
abbrev cX6_whoAt : ByteArray := prog_8_method_29_code
def yX6_whoAt : MethodName := ⟨RX6, "whoAt", "(I)I"⟩
abbrev cX6_watchersOf : ByteArray := prog_8_method_30_code
def yX6_watchersOf : MethodName := ⟨RX6, "watchersOf", "(I)I"⟩
abbrev cX6_cellNow : ByteArray := prog_8_method_31_code
def yX6_cellNow : MethodName := ⟨RX6, "cellNow", "(II)I"⟩
abbrev cX6_cell : ByteArray := prog_8_method_32_code
def yX6_cell : MethodName := ⟨RX6, "cell", "(II)I"⟩
abbrev cX6_leap : ByteArray := prog_8_method_33_code
def yX6_leap : MethodName := ⟨RX6, "leap", "(II)I"⟩
abbrev cX6_dig : ByteArray := prog_8_method_34_code
def yX6_dig : MethodName := ⟨RX6, "dig", "(I)I"⟩
abbrev cX6_fill : ByteArray := prog_8_method_35_code
def yX6_fill : MethodName := ⟨RX6, "fill", "(I)I"⟩
abbrev cX6_be : ByteArray := prog_8_method_36_code
def yX6_be : MethodName := ⟨RX6, "be", "(II)I"⟩
abbrev cX6_aroundAll : ByteArray := prog_8_method_37_code
def yX6_aroundAll : MethodName := ⟨RX6, "aroundAll", "(II)I"⟩
abbrev cX6_hopsNow : ByteArray := prog_8_method_38_code
def yX6_hopsNow : MethodName := ⟨RX6, "hopsNow", "(II)I"⟩
abbrev cX6_hops : ByteArray := prog_8_method_39_code
def yX6_hops : MethodName := ⟨RX6, "hops", "(II)I"⟩
abbrev cX6_comeTo : ByteArray := prog_8_method_40_code
def yX6_comeTo : MethodName := ⟨RX6, "comeTo", "(II)V"⟩
abbrev cX6_comeFrom : ByteArray := prog_8_method_41_code
def yX6_comeFrom : MethodName := ⟨RX6, "comeFrom", "(IIII)V"⟩
abbrev cX6_tradeNow : ByteArray := prog_8_method_42_code
def yX6_tradeNow : MethodName := ⟨RX6, "tradeNow", "(II)I"⟩
abbrev cX6_trade : ByteArray := prog_8_method_43_code
def yX6_trade : MethodName := ⟨RX6, "trade", "(II)I"⟩
abbrev cX6_goOn : ByteArray := prog_8_method_44_code
def yX6_goOn : MethodName := ⟨RX6, "goOn", "(III)V"⟩
abbrev cX6_longestBy : ByteArray := prog_8_method_45_code
def yX6_longestBy : MethodName := ⟨RX6, "longestBy", "(II)I"⟩
abbrev cX6_wayOf : ByteArray := prog_8_method_46_code
def yX6_wayOf : MethodName := ⟨RX6, "wayOf", "(II)I"⟩
abbrev cX6_peaceSet : ByteArray := prog_8_method_47_code
def yX6_peaceSet : MethodName := ⟨RX6, "peaceSet", "(I)I"⟩
abbrev cX6_guardSet : ByteArray := prog_8_method_48_code
def yX6_guardSet : MethodName := ⟨RX6, "guardSet", "(I)I"⟩
abbrev cX6_isKind : ByteArray := prog_8_method_49_code
def yX6_isKind : MethodName := ⟨RX6, "isKind", "(I)Z"⟩
abbrev cX6_refused : ByteArray := prog_8_method_50_code
def yX6_refused : MethodName := ⟨RX6, "refused", "(II)I"⟩
abbrev cX6_peaceNow : ByteArray := prog_8_method_51_code
def yX6_peaceNow : MethodName := ⟨RX6, "peaceNow", "(II)I"⟩
abbrev cX6_peace : ByteArray := prog_8_method_52_code
def yX6_peace : MethodName := ⟨RX6, "peace", "(II)I"⟩
abbrev cX6_guardNow : ByteArray := prog_8_method_53_code
def yX6_guardNow : MethodName := ⟨RX6, "guardNow", "(II)I"⟩
abbrev cX6_guard : ByteArray := prog_8_method_54_code
def yX6_guard : MethodName := ⟨RX6, "guard", "(II)I"⟩
abbrev cX6_partOf : ByteArray := prog_8_method_55_code
def yX6_partOf : MethodName := ⟨RX6, "partOf", "(II)I"⟩
abbrev cX6_partsNow : ByteArray := prog_8_method_56_code
def yX6_partsNow : MethodName := ⟨RX6, "partsNow", "(I)I"⟩
abbrev cX6_areShades : ByteArray := prog_8_method_57_code
def yX6_areShades : MethodName := ⟨RX6, "areShades", "(I)Z"⟩
abbrev cX6_partsTold : ByteArray := prog_8_method_58_code
def yX6_partsTold : MethodName := ⟨RX6, "partsTold", "(II)I"⟩
abbrev cX6_parts : ByteArray := prog_8_method_59_code
def yX6_parts : MethodName := ⟨RX6, "parts", "(II)I"⟩
abbrev cX6_chanceFrom : ByteArray := prog_8_method_60_code
def yX6_chanceFrom : MethodName := ⟨RX6, "chanceFrom", "(III)I"⟩
abbrev cX6_chanceNow : ByteArray := prog_8_method_61_code
def yX6_chanceNow : MethodName := ⟨RX6, "chanceNow", "(III)I"⟩
abbrev cX6_chance : ByteArray := prog_8_method_62_code
def yX6_chance : MethodName := ⟨RX6, "chance", "(III)I"⟩
abbrev cX6_see : ByteArray := prog_8_method_63_code
def yX6_see : MethodName := ⟨RX6, "see", "(IIIZ)I"⟩
abbrev cX6_forget : ByteArray := prog_8_method_64_code
def yX6_forget : MethodName := ⟨RX6, "forget", "()I"⟩
abbrev cX6_sortsOf : ByteArray := prog_8_method_65_code
def yX6_sortsOf : MethodName := ⟨RX6, "sortsOf", "(I)I"⟩
abbrev cX6_askOf : ByteArray := prog_8_method_66_code
def yX6_askOf : MethodName := ⟨RX6, "askOf", "(I)I"⟩
abbrev cX6_draw : ByteArray := prog_8_method_67_code
def yX6_draw : MethodName := ⟨RX6, "draw", "(I)I"⟩
abbrev cX6_ofSet : ByteArray := prog_8_method_68_code
def yX6_ofSet : MethodName := ⟨RX6, "ofSet", "(II)I"⟩
abbrev cX6_watchedFree : ByteArray := prog_8_method_69_code
def yX6_watchedFree : MethodName := ⟨RX6, "watchedFree", "()I"⟩
abbrev cX6_walksNow : ByteArray := prog_8_method_70_code
def yX6_walksNow : MethodName := ⟨RX6, "walksNow", "(III)I"⟩
abbrev cX6_walks : ByteArray := prog_8_method_71_code
def yX6_walks : MethodName := ⟨RX6, "walks", "(III)I"⟩
abbrev cX6_image : ByteArray := prog_8_method_72_code
def yX6_image : MethodName := ⟨RX6, "image", "()I"⟩
abbrev cX6_restore : ByteArray := prog_8_method_73_code
def yX6_restore : MethodName := ⟨RX6, "restore", "()I"⟩
abbrev cX6_howMany : ByteArray := prog_8_method_74_code
def yX6_howMany : MethodName := ⟨RX6, "howMany", "(I)I"⟩
abbrev cX6_count : ByteArray := prog_8_method_75_code
def yX6_count : MethodName := ⟨RX6, "count", "(I)I"⟩
abbrev cX6_mix : ByteArray := prog_8_method_76_code
def yX6_mix : MethodName := ⟨RX6, "mix", "(J)V"⟩
abbrev cX6_mixBoard : ByteArray := prog_8_method_77_code
def yX6_mixBoard : MethodName := ⟨RX6, "mixBoard", "()V"⟩
abbrev cX6_digest : ByteArray := prog_8_method_78_code
def yX6_digest : MethodName := ⟨RX6, "digest", "()J"⟩
def RJ11 : String := "java/lang/Character"
abbrev cJ11_isValidCodePoint_9a6ad : ByteArray := prog_9_method_11_code
def yJ11_isValidCodePoint_9a6ad : MethodName := ⟨RJ11, "isValidCodePoint", "(I)Z"⟩
abbrev cJ11_highSurrogate_5068e : ByteArray := prog_9_method_28_code
def yJ11_highSurrogate_5068e : MethodName := ⟨RJ11, "highSurrogate", "(I)C"⟩
abbrev cJ11_lowSurrogate_5068e : ByteArray := prog_9_method_29_code
def yJ11_lowSurrogate_5068e : MethodName := ⟨RJ11, "lowSurrogate", "(I)C"⟩
def RJ6 : String := "java/lang/Integer"
abbrev cJ6_bitCount_0f7a4 : ByteArray := prog_10_method_49_code
def yJ6_bitCount_0f7a4 : MethodName := ⟨RJ6, "bitCount", "(I)I"⟩
def RJ9 : String := "java/lang/Math"
abbrev cJ9_abs_0f7a4 : ByteArray := prog_11_method_59_code
def yJ9_abs_0f7a4 : MethodName := ⟨RJ9, "abs", "(I)I"⟩
abbrev cJ9_max_7cf53 : ByteArray := prog_11_method_65_code
def yJ9_max_7cf53 : MethodName := ⟨RJ9, "max", "(II)I"⟩
abbrev cJ9_min_7cf53 : ByteArray := prog_11_method_69_code
def yJ9_min_7cf53 : MethodName := ⟨RJ9, "min", "(II)I"⟩
def RJ0 : String := "java/lang/String"
abbrev cJ0_length_8abf5 : ByteArray := prog_12_method_54_code
def yJ0_length_8abf5 : MethodName := ⟨RJ0, "length", "()I"⟩
abbrev cJ0_indexOf_0f7a4 : ByteArray := prog_12_method_79_code
def yJ0_indexOf_0f7a4 : MethodName := ⟨RJ0, "indexOf", "(I)I"⟩
abbrev cJ0_indexOf_7cf53 : ByteArray := prog_12_method_80_code
def yJ0_indexOf_7cf53 : MethodName := ⟨RJ0, "indexOf", "(II)I"⟩
abbrev cJ0_coder_7d493 : ByteArray := prog_12_method_152_code
def yJ0_coder_7d493 : MethodName := ⟨RJ0, "coder", "()B"⟩
abbrev cJ0_isLatin1_aae02 : ByteArray := prog_12_method_154_code
def yJ0_isLatin1_aae02 : MethodName := ⟨RJ0, "isLatin1", "()Z"⟩
abbrev cJ0_checkBoundsBeginEnd_23922 : ByteArray := prog_12_method_158_code
def yJ0_checkBoundsBeginEnd_23922 : MethodName := ⟨RJ0, "checkBoundsBeginEnd", "(III)V"⟩
def RJ1 : String := "java/lang/StringLatin1"
abbrev cJ1_canEncode_9a6ad : ByteArray := prog_13_method_4_code
def yJ1_canEncode_9a6ad : MethodName := ⟨RJ1, "canEncode", "(I)Z"⟩
abbrev cJ1_indexOf_4cfef : ByteArray := prog_13_method_22_code
def yJ1_indexOf_4cfef : MethodName := ⟨RJ1, "indexOf", "([BIII)I"⟩
abbrev cJ1_indexOfChar_4cfef : ByteArray := prog_13_method_23_code
def yJ1_indexOfChar_4cfef : MethodName := ⟨RJ1, "indexOfChar", "([BIII)I"⟩
def RJ2 : String := "java/lang/StringUTF16"
abbrev cJ2_getChar_3b067 : ByteArray := prog_14_method_5_code
def yJ2_getChar_3b067 : MethodName := ⟨RJ2, "getChar", "([BI)C"⟩
abbrev cJ2_length_9d52b : ByteArray := prog_14_method_6_code
def yJ2_length_9d52b : MethodName := ⟨RJ2, "length", "([B)I"⟩
abbrev cJ2_indexOf_4cfef : ByteArray := prog_14_method_40_code
def yJ2_indexOf_4cfef : MethodName := ⟨RJ2, "indexOf", "([BIII)I"⟩
abbrev cJ2_indexOfChar_4cfef : ByteArray := prog_14_method_47_code
def yJ2_indexOfChar_4cfef : MethodName := ⟨RJ2, "indexOfChar", "([BIII)I"⟩
abbrev cJ2_indexOfCharUnsafe_4cfef : ByteArray := prog_14_method_48_code
def yJ2_indexOfCharUnsafe_4cfef : MethodName := ⟨RJ2, "indexOfCharUnsafe", "([BIII)I"⟩
abbrev cJ2_indexOfSupplementary_4cfef : ByteArray := prog_14_method_49_code
def yJ2_indexOfSupplementary_4cfef : MethodName := ⟨RJ2, "indexOfSupplementary", "([BIII)I"⟩
abbrev cJ2_checkBoundsBeginEnd_d044e : ByteArray := prog_14_method_93_code
def yJ2_checkBoundsBeginEnd_d044e : MethodName := ⟨RJ2, "checkBoundsBeginEnd", "(II[B)V"⟩
def RJ3 : String := "jdk/internal/util/Preconditions"
abbrev cJ3_checkFromToIndex_8c36e : ByteArray := prog_15_method_12_code
def yJ3_checkFromToIndex_8c36e : MethodName := ⟨RJ3, "checkFromToIndex", "(IIILjava/util/function/BiFunction;)I"⟩
def RL : String := "LeapBoardLaw"
abbrev cL_law : ByteArray := code
def yL_law : MethodName := ⟨RL, "law", "([I)Z"⟩
abbrev vwCl : List vw_C := [(RX0, TX0, 1), (RX1, TX1, 4), (RX2, TX2, 3), (RX3, TX3, 8), (RX4, TX4, 6), (RX5, TX5, 9), (RX6, TX6, 39)]
